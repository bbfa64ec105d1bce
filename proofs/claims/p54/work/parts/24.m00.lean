set_option maxHeartbeats 4000000 in
set_option maxRecDepth 100000 in
theorem t_X10_in (l : Launch) {D : va_G} {c0 : Nat → ClassId} {Y : Nat → Option Nat} {ν : Nat → Nat} {H : Heap} (hT : TI D vwCl (tysOf c0) (RTg ν) Y H) {x0 : Int64} (hx0 : jv x0 (-9223372036854775808) 9223372036854775807) {x1 : Int64} (hx1 : jv x1 (-1) 97) {x2 : Int64} (hx2 : jv x2 (-2147483648) 2000000000) : Met l yX10_in (wz yX10_in cX10_in 6 (some .boolean)) { frames := 0, cells := 0, slots := 0, locals := 0 } (TP D vwCl (tysOf c0) H [.long x0, .long x1, .long x2]) (TQi (fun x H' => H' = H ∧ iv x 0 1 ∧ ((x.toInt = 0 ∨ x1.toInt ≤ x0.toInt ∧ x0.toInt ≤ x2.toInt))) Y []) 0 0 (pW Y []) := by
  refine Met.ofW (cc := cX10_in) (maxL := 6) (ret := (some .boolean)) (by decide) rfl ?_
  intro p e s m args below meth c s₁ B hml hv
  obtain ⟨rfl, rfl, hK⟩ := hv
  have hx := B.exec
  have hb := B.bytes
  have hr := B.returns
  have hts : ∀ w ∈ wq, w.before _ s = true := fun w h => atoms_spec (ws := wz yX10_in cX10_in 6 (some .boolean)) B.pre w (List.mem_cons_of_mem _ h)
  have hown : s.vm.findClass RX10 = some m.cls := findClass_of_methodNamed B.named
  have hlocks := B.notSynchronized
  obtain ⟨R, hR⟩ : ∃ R : Room, R = ({ frames := 0, cells := 0, slots := 0, locals := 0 } : Room) := ⟨_, rfl⟩
  rw [show (headSpec (wz yX10_in cX10_in 6 (some .boolean)) { frames := 0, cells := 0, slots := 0, locals := 0 }).room = R from hR.symm]
  refine ti_mz hx hb hr hlocks (fun Q ret => ?_)
  have hl := lv_entry [.long x0, .long x1, .long x2] (n := 6) (Nat.le_of_ble_eq_true rfl)
  rw [lg_entry_eq]
  generalize (lg_sl [.long x0, .long x1, .long x2] ++ List.replicate (6 - (lg_sl [.long x0, .long x1, .long x2]).length) Slot.unset).toArray = ls at hl ⊢
  have hl : lv_has ls 6 [(0, .long x0), (2, .long x1), (4, .long x2)] := hl
  have hS : va_S (pW Y []) s.heap s.heap [] := va_S.rf
  refine lv_lload_n hx hb dX10_in_0 rfl (lv_at hl 0 rfl) ?_
  refine lv_lload_n hx hb dX10_in_1 rfl (lv_at hl 1 rfl) ?_
  refine W.lcmp hx hb dX10_in_2 ?_
  refine lv_if_lt (tgt := 17) hx hb dX10_in_3 (by decide) (fun c3 => ?_) (fun c3 => ?_)
  · skip
    have kl0 : (0 : Int32).toInt = 0 := by decide
    have f3 := jc_lt c3
    have hx0_3a : jv x0 (-9223372036854775808) 96 := by have b0a := (hx0).1; have b0b := (hx0).2; have b1a := (hx1).1; have b1b := (hx1).2; exact ⟨by omega, by omega⟩
    refine lv_iconst (v := 0) hx hb dX10_in_17 (by decide) ?_
    exact ret _ _ _ _ _ dX10_in_18 (iv_w (iv_c (x := (0 : Int32)) (k := 0) (by decide)) (by decide)) (⟨rfl, iv_w (iv_c (x := (0 : Int32)) (k := 0) (by decide)) (by decide), by have b0a := (hx0_3a).1; have b0b := (hx0_3a).2; have b1a := (hx1).1; have b1b := (hx1).2; have b2a := (hx2).1; have b2b := (hx2).2; omega⟩) hS
  · skip
    have kl0 : (0 : Int32).toInt = 0 := by decide
    have f3 := jc_nlt c3
    have hx0_3a : jv x0 (-1) 9223372036854775807 := by have b0a := (hx0).1; have b0b := (hx0).2; have b1a := (hx1).1; have b1b := (hx1).2; exact ⟨by omega, by omega⟩
    refine lv_lload_n hx hb dX10_in_6 rfl (lv_at hl 0 rfl) ?_
    refine lv_lload hx hb dX10_in_7 (lv_at hl 2 rfl) ?_
    refine W.lcmp hx hb dX10_in_9 ?_
    refine lv_if_gt (tgt := 17) hx hb dX10_in_10 (by decide) (fun c10 => ?_) (fun c10 => ?_)
    · skip
      have f10 := jc_gt c10
      refine lv_iconst (v := 0) hx hb dX10_in_17 (by decide) ?_
      exact ret _ _ _ _ _ dX10_in_18 (iv_w (iv_c (x := (0 : Int32)) (k := 0) (by decide)) (by decide)) (⟨rfl, iv_w (iv_c (x := (0 : Int32)) (k := 0) (by decide)) (by decide), by have b0a := (hx0_3a).1; have b0b := (hx0_3a).2; have b1a := (hx1).1; have b1b := (hx1).2; have b2a := (hx2).1; have b2b := (hx2).2; omega⟩) hS
    · skip
      have f10 := jc_ngt c10
      have hx0_10a : jv x0 (-1) 2000000000 := by have b0a := (hx0_3a).1; have b0b := (hx0_3a).2; have b1a := (hx2).1; have b1b := (hx2).2; exact ⟨by omega, by omega⟩
      have hx2_10b : jv x2 (-1) 2000000000 := by have b0a := (hx0_10a).1; have b0b := (hx0_10a).2; have b1a := (hx2).1; have b1b := (hx2).2; exact ⟨by omega, by omega⟩
      refine lv_iconst (v := 1) hx hb dX10_in_13 (by decide) ?_
      refine lv_goto (tgt := 18) hx hb dX10_in_14 (by decide) ?_
      have kl1 : (1 : Int32).toInt = 1 := by decide
      exact ret _ _ _ _ _ dX10_in_18 (iv_w (iv_c (x := (1 : Int32)) (k := 1) (by decide)) (by decide)) (⟨rfl, iv_w (iv_c (x := (1 : Int32)) (k := 1) (by decide)) (by decide), by have b0a := (hx0_10a).1; have b0b := (hx0_10a).2; have b1a := (hx1).1; have b1b := (hx1).2; have b2a := (hx2_10b).1; have b2b := (hx2_10b).2; omega⟩) hS
set_option maxHeartbeats 4000000 in
set_option maxRecDepth 100000 in
theorem t_X10_empties (l : Launch) {D : va_G} {c0 : Nat → ClassId} {Y : Nat → Option Nat} {ν : Nat → Nat} {H : Heap} (hT : TI D vwCl (tysOf c0) (RTg ν) Y H) {a0 : Nat} (ha0 : Y a0 = some 36) (hν4 : ν 4 = 0) (hU : uq Y) : Met l yX10_empties (wz yX10_empties cX10_empties 2 none) { frames := 0, cells := 0, slots := 0, locals := 0 } (TP D vwCl (tysOf c0) H [.ref a0]) (TQv (fun H' => TI D vwCl (tysOf c0) (RTg (νf ν)) Y H') Y [36]) 0 0 (pW Y [36]) := by
  refine Met.ofW (cc := cX10_empties) (maxL := 2) (ret := none) (by decide) rfl ?_
  intro p e s m args below meth c s₁ B hml hv
  obtain ⟨rfl, rfl, hK⟩ := hv
  have hx := B.exec
  have hb := B.bytes
  have hr := B.returns
  have hts : ∀ w ∈ wq, w.before _ s = true := fun w h => atoms_spec (ws := wz yX10_empties cX10_empties 2 none) B.pre w (List.mem_cons_of_mem _ h)
  have hown : s.vm.findClass RX10 = some m.cls := findClass_of_methodNamed B.named
  have hlocks := B.notSynchronized
  obtain ⟨R, hR⟩ : ∃ R : Room, R = ({ frames := 0, cells := 0, slots := 0, locals := 0 } : Room) := ⟨_, rfl⟩
  rw [show (headSpec (wz yX10_empties cX10_empties 2 none) { frames := 0, cells := 0, slots := 0, locals := 0 }).room = R from hR.symm]
  refine ti_mv hx hb hr hlocks (fun Q ret => ?_)
  have hl := lv_entry [.ref a0] (n := 2) (Nat.le_of_ble_eq_true rfl)
  rw [lg_entry_eq]
  generalize (lg_sl [.ref a0] ++ List.replicate (2 - (lg_sl [.ref a0]).length) Slot.unset).toArray = ls at hl ⊢
  have hl : lv_has ls 2 [(0, .ref a0)] := hl
  refine ti_gen (P := fun H => TI D vwCl (tysOf c0) (RTg ν) Y H) (Y := Y) (ws := [36]) hT (fun H locs hT hS => ?_)
  refine lv_iconst (v := 0) hx hb dX10_empties_0 (by decide) ?_
  have J2 : ∀ (n : Nat) (j2_L1 : Int32) (H : Heap) (locs : List Loc) (ls : Array Slot), (178 - j2_L1.toInt).toNat < n → iv j2_L1 0 178 → TI D vwCl (tysOf c0) (RTg ν) Y H → va_S (pW Y [36]) s.heap H locs → lv_has ls 2 [(0, .ref a0), (1, .int j2_L1)] → W p l e R s m ([.ref a0] : List Value).toArray below meth c H locs 0 0 Q (F0 m 2 ls []) := by
    intro n
    induction n with
    | zero => intro j2_L1 H locs ls hms; exact absurd hms (Nat.not_lt_zero _)
    | succ n ih2 =>
      intro j2_L1 H locs ls hms2 hj2_L1 hT hS hl
      refine lv_iload_n hx hb dX10_empties_2 rfl (lv_at hl 1 rfl) ?_
      refine lv_sipush (v := 178) hx hb dX10_empties_3 (by decide) ?_
      refine lv_icmp_ge (tgt := 19) hx hb dX10_empties_6 (by decide) (fun c6 => ?_) (fun c6 => ?_)
      · skip
        have kl178 : (178 : Int32).toInt = 178 := by decide
        have f6 := i_le c6
        have hj2_L1_6r : iv j2_L1 178 178 := iv_ler (iv_c (x := (178 : Int32)) (k := 178) (by decide)) hj2_L1 c6 (by decide)
        refine lv_aload_n hx hb dX10_empties_19 rfl (lv_at hl 0 rfl) ?_
        refine lv_iconst (v := 3) hx hb dX10_empties_20 (by decide) ?_
        refine lv_iconst (v := 2) hx hb dX10_empties_21 (by decide) ?_
        refine ti_iast hx hb (aT0 hK) hT hS ha0 rfl rfl (iv_c (x := (3 : Int32)) (k := 3) (by decide)) (by decide) (one_s 3 rfl rfl (by decide) (by decide)) (iv_c (x := (2 : Int32)) (k := 2) (by decide)) (fun _ _ => trivial) dX10_empties_22 (fun H locs hT hS oq22 he22 hk22 => ?_)
        refine lv_iconst (v := 0) hx hb dX10_empties_23 (by decide) ?_
        have J25 : ∀ (n : Nat) (j25_L1 : Int32) (H : Heap) (locs : List Loc) (ls : Array Slot), (64 - j25_L1.toInt).toNat < n → iv j25_L1 0 64 → (∀ q, Y q = some 36 → ∀ j : Nat, j < j25_L1.toNatClampNeg → ∃ v : Value, am q (96 + j) v H ∧ gm Y (.inl (1, 1)) v) → TI D vwCl (tysOf c0) (RTg ν) Y H → va_S (pW Y [36]) s.heap H locs → lv_has ls 2 [(0, .ref a0), (1, .int j25_L1)] → W p l e R s m ([.ref a0] : List Value).toArray below meth c H locs 0 0 Q (F0 m 25 ls []) := by
          intro n
          induction n with
          | zero => intro j25_L1 H locs ls hms; exact absurd hms (Nat.not_lt_zero _)
          | succ n ih25 =>
            intro j25_L1 H locs ls hms25 hj25_L1 hX25_0 hT hS hl
            refine lv_iload_n hx hb dX10_empties_25 rfl (lv_at hl 1 rfl) ?_
            refine lv_bipush (v := 64) hx hb dX10_empties_26 (by decide) ?_
            refine lv_icmp_ge (tgt := 44) hx hb dX10_empties_28 (by decide) (fun c28 => ?_) (fun c28 => ?_)
            · skip
              have kl64 : (64 : Int32).toInt = 64 := by decide
              have f28 := i_le c28
              have hj25_L1_28r : iv j25_L1 64 64 := iv_ler (iv_c (x := (64 : Int32)) (k := 64) (by decide)) hj25_L1 c28 (by decide)
              exact ret _ _ _ _ dX10_empties_44 (fresh_on hU hν4 hT (fun q hq j hj => hX25_0 q hq j (by have b0a := (hj2_L1_6r).1; have b0b := (hj2_L1_6r).2; have b1a := (hj25_L1_28r).1; have b1b := (hj25_L1_28r).2; show j < j25_L1.toInt.toNat; omega))) hS
            · skip
              have kl64 : (64 : Int32).toInt = 64 := by decide
              have f28 := i_nle c28
              have hj25_L1_28l : iv j25_L1 0 63 := iv_ltl hj25_L1 (iv_c (x := (64 : Int32)) (k := 64) (by decide)) (Int32.not_le.mp c28) (by decide)
              refine lv_aload_n hx hb dX10_empties_31 rfl (lv_at hl 0 rfl) ?_
              refine lv_bipush (v := 96) hx hb dX10_empties_32 (by decide) ?_
              refine lv_iload_n hx hb dX10_empties_34 rfl (lv_at hl 1 rfl) ?_
              refine lv_iadd hx hb dX10_empties_35 ?_
              refine lv_topi (fun v35 e35 => ?_)
              have hv35 : iv v35 96 159 := by rw [e35]; exact iv_w (iv_add (iv_c (x := (96 : Int32)) (k := 96) (by decide)) hj25_L1_28l (by decide)) (by decide)
              have s35 : v35.toInt = (96 : Int32).toInt + j25_L1.toInt := by rw [e35]; exact iv_addE (iv_c (x := (96 : Int32)) (k := 96) (by decide)) hj25_L1_28l (by decide)
              have kl96 : (96 : Int32).toInt = 96 := by decide
              refine lv_iconst (v := 1) hx hb dX10_empties_36 (by decide) ?_
              refine ti_iast hx hb (aT0 hK) hT hS ha0 rfl rfl hv35 (by decide) (fr_w (by decide) (by decide)) (iv_c (x := (1 : Int32)) (k := 1) (by decide)) (fun _ _ => trivial) dX10_empties_37 (fun H locs hT hS oq37 he37 hk37 => ?_)
              obtain ⟨v38, e38⟩ : ∃ y : Int32, y = j25_L1 + 1 := ⟨_, rfl⟩
              have hv38 : iv v38 1 64 := by rw [e38]; exact iv_w (iv_add hj25_L1_28l (iv_c (x := (1 : Int32)) (k := 1) (by decide)) (by decide)) (by decide)
              have s38 : v38.toInt = j25_L1.toInt + 1 := by rw [e38, iv_addE hj25_L1_28l (iv_c (x := (1 : Int32)) (k := 1) (by decide)) (by decide)]; rfl
              refine lv_iinc (v := v38) (lv' := [(1, .int v38), (0, .ref a0)]) hx hb dX10_empties_38 hl (k := 1) rfl (by rw [e38]; rfl) (by decide) rfl (fun ls hl => ?_)
              refine lv_goto (tgt := 25) hx hb dX10_empties_41 (by decide) ?_
              exact ih25 v38 _ _ _ (ms_up hms25 (by have := s38; omega) (iv_w (c := 1) (d := 64) hv38 (by decide)).2) (iv_w hv38 (by decide)) (fun q hq => by
            have e9 := hU 36 q a0 (by decide) hq ha0
            subst e9
            exact cpy_step (f := fun _ => .inl (1, 1)) (hX25_0 _ hq) he37 hk37 (by have b0a := (hj2_L1_6r).1; have b0b := (hj2_L1_6r).2; have b1a := (hj25_L1_28l).1; have b1b := (hj25_L1_28l).2; have b2a := (hv35).1; have b2b := (hv35).2; have b3a := (hv38).1; have b3b := (hv38).2; show v35.toInt.toNat = 96 + j25_L1.toInt.toNat; omega) (by have b0a := (hj2_L1_6r).1; have b0b := (hj2_L1_6r).2; have b1a := (hj25_L1_28l).1; have b1b := (hj25_L1_28l).2; have b2a := (hv35).1; have b2b := (hv35).2; have b3a := (hv38).1; have b3b := (hv38).2; show v38.toInt.toNat = j25_L1.toInt.toNat + 1; omega) ⟨1, rfl, iv_c (by decide)⟩) hT hS (lv_sub hl [1, 0] rfl)
        refine lv_istore_n (lv' := [(1, .int (0 : Int32)), (0, .ref a0)]) hx hb dX10_empties_24 rfl hl (by decide) rfl (fun ls hl => ?_)
        exact J25 _ (0 : Int32) _ _ _ (Nat.lt_succ_self _) (iv_w (iv_c (x := (0 : Int32)) (k := 0) (by decide)) (by decide)) (fun q hq j hj => absurd hj nlt0) hT hS (lv_sub hl [1, 0] rfl)
      · skip
        have kl178 : (178 : Int32).toInt = 178 := by decide
        have f6 := i_nle c6
        have hj2_L1_6l : iv j2_L1 0 177 := iv_ltl hj2_L1 (iv_c (x := (178 : Int32)) (k := 178) (by decide)) (Int32.not_le.mp c6) (by decide)
        refine lv_aload_n hx hb dX10_empties_9 rfl (lv_at hl 0 rfl) ?_
        refine lv_iload_n hx hb dX10_empties_10 rfl (lv_at hl 1 rfl) ?_
        refine lv_iconst (v := 0) hx hb dX10_empties_11 (by decide) ?_
        refine ti_iast hx hb (aT0 hK) hT hS ha0 rfl rfl hj2_L1_6l (by decide) (fr_z hν4) (iv_c (x := (0 : Int32)) (k := 0) (by decide)) (fun _ _ => trivial) dX10_empties_12 (fun H locs hT hS oq12 he12 hk12 => ?_)
        obtain ⟨v13, e13⟩ : ∃ y : Int32, y = j2_L1 + 1 := ⟨_, rfl⟩
        have hv13 : iv v13 1 178 := by rw [e13]; exact iv_w (iv_add hj2_L1_6l (iv_c (x := (1 : Int32)) (k := 1) (by decide)) (by decide)) (by decide)
        have s13 : v13.toInt = j2_L1.toInt + 1 := by rw [e13, iv_addE hj2_L1_6l (iv_c (x := (1 : Int32)) (k := 1) (by decide)) (by decide)]; rfl
        refine lv_iinc (v := v13) (lv' := [(1, .int v13), (0, .ref a0)]) hx hb dX10_empties_13 hl (k := 1) rfl (by rw [e13]; rfl) (by decide) rfl (fun ls hl => ?_)
        refine lv_goto (tgt := 2) hx hb dX10_empties_16 (by decide) ?_
        exact ih2 v13 _ _ _ (ms_up hms2 (by have := s13; omega) (iv_w (c := 1) (d := 178) hv13 (by decide)).2) (iv_w hv13 (by decide)) hT hS (lv_sub hl [1, 0] rfl)
  refine lv_istore_n (lv' := [(1, .int (0 : Int32)), (0, .ref a0)]) hx hb dX10_empties_1 rfl hl (by decide) rfl (fun ls hl => ?_)
  exact J2 _ (0 : Int32) _ _ _ (Nat.lt_succ_self _) (iv_w (iv_c (x := (0 : Int32)) (k := 0) (by decide)) (by decide)) hT hS (lv_sub hl [1, 0] rfl)
set_option maxHeartbeats 4000000 in
set_option maxRecDepth 100000 in
theorem t_X10_keep (l : Launch) {D : va_G} {c0 : Nat → ClassId} {Y : Nat → Option Nat} {ν : Nat → Nat} {H : Heap} (hT : TI D vwCl (tysOf c0) (RTg ν) Y H) {a0 : Nat} (ha0 : Y a0 = some 10) {x1 : Int32} (hx1 : iv x1 (-2147483648) 2147483647) (hU : uq Y) : Met l yX10_keep (wz yX10_keep cX10_keep 3 (some .int)) { frames := 1, cells := 0, slots := 0, locals := 25 } (TP D vwCl (tysOf c0) H [.ref a0, .int x1]) (TQi (fun x H' => (∃ ν' : Nat → Nat, (∀ j, 3 ≤ j → ν' j = ν j) ∧ TI D vwCl (tysOf c0) (RTg ν') Y H') ∧ iv x (-2) 0) Y [31, 32, 33]) 0 0 (pW Y [31, 32, 33]) := by
  refine Met.ofW (cc := cX10_keep) (maxL := 3) (ret := (some .int)) (by decide) rfl ?_
  intro p e s m args below meth c s₁ B hml hv
  obtain ⟨rfl, rfl, hK⟩ := hv
  have hx := B.exec
  have hb := B.bytes
  have hr := B.returns
  have hts : ∀ w ∈ wq, w.before _ s = true := fun w h => atoms_spec (ws := wz yX10_keep cX10_keep 3 (some .int)) B.pre w (List.mem_cons_of_mem _ h)
  have hown : s.vm.findClass RX10 = some m.cls := findClass_of_methodNamed B.named
  have hlocks := B.notSynchronized
  obtain ⟨R, hR⟩ : ∃ R : Room, R = ({ frames := 1, cells := 0, slots := 0, locals := 25 } : Room) := ⟨_, rfl⟩
  rw [show (headSpec (wz yX10_keep cX10_keep 3 (some .int)) { frames := 1, cells := 0, slots := 0, locals := 25 }).room = R from hR.symm]
  refine ti_mi hx hb hr hlocks (fun Q ret => ?_)
  have hl := lv_entry [.ref a0, .int x1] (n := 3) (Nat.le_of_ble_eq_true rfl)
  rw [lg_entry_eq]
  generalize (lg_sl [.ref a0, .int x1] ++ List.replicate (3 - (lg_sl [.ref a0, .int x1]).length) Slot.unset).toArray = ls at hl ⊢
  have hl : lv_has ls 3 [(0, .ref a0), (1, .int x1)] := hl
  refine ti_gen (P := fun H => TI D vwCl (tysOf c0) (RTg ν) Y H) (Y := Y) (ws := [31, 32, 33]) hT (fun H locs hT hS => ?_)
  refine lv_iload_n hx hb dX10_keep_0 rfl (lv_at hl 1 rfl) ?_
  refine lv_i2l hx hb dX10_keep_1 rfl ?_
  refine lv_topl (fun v1 e1 => ?_)
  have hv1 : jv v1 (-2147483648) 2147483647 := by rw [e1]; exact jv_i hx1
  have t1 : v1.toInt = x1.toInt := by rw [e1]; exact jv_e _
  refine lv_lconst (v := 0) hx hb dX10_keep_2 (by decide) ?_
  have kj0 : (0 : Int64).toInt = 0 := by decide
  refine lv_ldc2 (v := 2) hx hb hown (hts _ kw_1218) dX10_keep_3 ?_
  have kj2 : (2 : Int64).toInt = 2 := by decide
  refine ti_calli (va_runS (As := [.long v1, .long (0 : Int64), .long (2 : Int64)]) (rest := []) ⟨hx, hb, hml, hown, hts⟩ (t_X10_in l hT (jv_w hv1 (by decide)) (jv_w (jv_c (x := (0 : Int64)) (k := 0) (by decide)) (by decide)) (jv_w (jv_c (x := (2 : Int64)) (k := 2) (by decide)) (by decide))) (cwS 3 hts (good_S kw_181 kw_182 kw_5 kw_183) rfl rfl rfl (by decide +kernel) ⟨by rw [hR]; decide, by rw [hR]; decide⟩) (ti_preS hK) rfl rfl hl.1 rfl (lv_room (Nat.le_of_ble_eq_true rfl)) dX10_keep_6 ⟨Nat.zero_le _, Nat.zero_le _⟩) hS (pW_sub rfl) (fun v6 H1 locs hB hS _ hk6 => ?_)
  obtain ⟨hH, hv6, hp6⟩ := hB
  rw [hH] at hS ⊢
  refine lv_if_ne (tgt := 15) hx hb dX10_keep_9 (by decide) (fun c9 => ?_) (fun c9 => ?_)
  · skip
    have kl0 : (0 : Int32).toInt = 0 := by decide
    have f9 := i_ne c9
    have hv6_9l : iv v6 1 1 := iv_nel hv6 (iv_c (x := (0 : Int32)) (k := 0) (by decide)) c9 (by decide)
    have hv1_9p : jv v1 0 2 := by have b0a := (hv1).1; have b0b := (hv1).2; have b1a := ((jv_c (x := (0 : Int64)) (k := 0) (by decide))).1; have b1b := ((jv_c (x := (0 : Int64)) (k := 0) (by decide))).2; have b2a := ((jv_c (x := (2 : Int64)) (k := 2) (by decide))).1; have b2b := ((jv_c (x := (2 : Int64)) (k := 2) (by decide))).2; exact ⟨by omega, by omega⟩
    have hx1_9p : iv x1 0 2 := by have := t1; have b0a := (hv1_9p).1; have b0b := (hv1_9p).2; have b1a := (hx1).1; have b1b := (hx1).2; exact ⟨by omega, by omega⟩
    refine lv_iconst (v := 0) hx hb dX10_keep_15 (by decide) ?_
    have J17 : ∀ (n : Nat) (j17_L2 : Int32) (H : Heap) (locs : List Loc) (ls : Array Slot), (178 - j17_L2.toInt).toNat < n → iv j17_L2 0 178 → (∀ q, Y q = some 31 → ∀ j : Nat, j < j17_L2.toNatClampNeg → ∃ v : Value, am q (178 * x1.toNatClampNeg + j) v H ∧ gm Y (wfg j) v) → TI D vwCl (tysOf c0) (RTg ν) Y H → va_S (pW Y [31, 32, 33]) s.heap H locs → lv_has ls 3 [(0, .ref a0), (1, .int x1), (2, .int j17_L2)] → W p l e R s m ([.ref a0, .int x1] : List Value).toArray below meth c H locs 0 0 Q (F0 m 17 ls []) := by
      intro n
      induction n with
      | zero => intro j17_L2 H locs ls hms; exact absurd hms (Nat.not_lt_zero _)
      | succ n ih17 =>
        intro j17_L2 H locs ls hms17 hj17_L2 hX17_0 hT hS hl
        refine lv_iload_n hx hb dX10_keep_17 rfl (lv_at hl 2 rfl) ?_
        refine lv_sipush (v := 178) hx hb dX10_keep_18 (by decide) ?_
        refine lv_icmp_ge (tgt := 48) hx hb dX10_keep_21 (by decide) (fun c21 => ?_) (fun c21 => ?_)
        · skip
          have kl178 : (178 : Int32).toInt = 178 := by decide
          have f21 := i_le c21
          have hj17_L2_21r : iv j17_L2 178 178 := iv_ler (iv_c (x := (178 : Int32)) (k := 178) (by decide)) hj17_L2 c21 (by decide)
          refine lv_aload_n hx hb dX10_keep_48 rfl (lv_at hl 0 rfl) ?_
          refine ti_getr hx hb hts inlX10 hown hK hT ha0 rfl rfl rfl 3 (by decide) (hts _ kw_132) (fun _ h9 => h9) rfl dX10_keep_49 (fun v49 hv49 hm49 => ?_)
          refine lv_iload_n hx hb dX10_keep_52 rfl (lv_at hl 1 rfl) ?_
          refine lv_aload_n hx hb dX10_keep_53 rfl (lv_at hl 0 rfl) ?_
          refine ti_getl hx hb hts inlX10 hown hK hT ha0 rfl rfl rfl 16 (by decide) (hts _ kw_382) (fun _ h9 => h9) rfl dX10_keep_54 (fun v54 hm54 => ?_)
          refine ti_last hx hb (aT3 hK) hT hS hv49 rfl rfl hx1_9p (by decide) (fun _ _ _ => rfl)  (fun _ _ => trivial) dX10_keep_57 (fun H locs hT hS oq57 he57 hk57 => ?_)
          refine lv_aload_n hx hb dX10_keep_58 rfl (lv_at hl 0 rfl) ?_
          refine ti_getr hx hb hts inlX10 hown hK hT ha0 rfl rfl rfl 4 (by decide) (hts _ kw_133) (fun _ h9 => h9) rfl dX10_keep_59 (fun v59 hv59 hm59 => ?_)
          refine lv_iload_n hx hb dX10_keep_62 rfl (lv_at hl 1 rfl) ?_
          refine lv_iconst (v := 1) hx hb dX10_keep_63 (by decide) ?_
          have hinv : ∀ q, Y q = some 31 → ∀ j : Nat, j < 178 → ∃ v : Value, am q (178 * x1.toNatClampNeg + j) v H ∧ gm Y (wfg j) v := fun q hq j hj => by
            obtain ⟨v, g1, g2⟩ := hX17_0 q hq j (by have b0a := (hx1_9p).1; have b0b := (hx1_9p).2; have b1a := (hv1_9p).1; have b1b := (hv1_9p).2; have b2a := (hv6_9l).1; have b2b := (hv6_9l).2; have b3a := (hj17_L2_21r).1; have b3b := (hj17_L2_21r).2; have b4a := ((jv_top v54)).1; have b4b := ((jv_top v54)).2; show j < j17_L2.toInt.toNat; omega)
            exact ⟨v, g1.kept (oq57 _ (ne_r hq hv49 rfl)), g2⟩
          refine xzst hx hb (aT2 hK) hT hS hv59 rfl rfl hx1_9p (by decide) (iv_w (iv_c (x := (1 : Int32)) (k := 1) (by decide)) (by decide)) dX10_keep_64 (fun cA ty f H locs hc hf _ he hS ob => ?_)
          have hT := keep_put hU hT hv59 (by have b0a := (hx1_9p).1; have b0b := (hx1_9p).2; have b1a := (hv1_9p).1; have b1b := (hv1_9p).2; have b2a := (hv6_9l).1; have b2b := (hv6_9l).2; have b3a := (hj17_L2_21r).1; have b3b := (hj17_L2_21r).2; have b4a := ((jv_top v54)).1; have b4b := ((jv_top v54)).2; show x1.toInt.toNat < 3; omega) hc hf (iv_c (x := (1 : Int32)) (k := 1) (by decide)) he ob hinv
          refine lv_iconst (v := 0) hx hb dX10_keep_65 (by decide) ?_
          exact ret _ _ _ _ _ dX10_keep_66 (⟨⟨_, fun j h9 => by show (if j = x1.toNatClampNeg then 178 else ν j) = ν j; rw [if_neg (by have b0a := (hx1_9p).1; have b0b := (hx1_9p).2; have b1a := (hv1_9p).1; have b1b := (hv1_9p).2; have b2a := (hv6_9l).1; have b2b := (hv6_9l).2; have b3a := (hj17_L2_21r).1; have b3b := (hj17_L2_21r).2; have b4a := ((jv_top v54)).1; have b4b := ((jv_top v54)).2; show ¬ j = x1.toInt.toNat; omega)], hT⟩, iv_w (iv_c (x := (0 : Int32)) (k := 0) (by decide)) (by decide)⟩) hS
        · skip
          have kl178 : (178 : Int32).toInt = 178 := by decide
          have f21 := i_nle c21
          have hj17_L2_21l : iv j17_L2 0 177 := iv_ltl hj17_L2 (iv_c (x := (178 : Int32)) (k := 178) (by decide)) (Int32.not_le.mp c21) (by decide)
          refine lv_aload_n hx hb dX10_keep_24 rfl (lv_at hl 0 rfl) ?_
          refine ti_getr hx hb hts inlX10 hown hK hT ha0 rfl rfl rfl 2 (by decide) (hts _ kw_131) (fun _ h9 => h9) rfl dX10_keep_25 (fun v25 hv25 hm25 => ?_)
          refine lv_sipush (v := 178) hx hb dX10_keep_28 (by decide) ?_
          refine lv_iload_n hx hb dX10_keep_31 rfl (lv_at hl 1 rfl) ?_
          refine lv_imul hx hb dX10_keep_32 ?_
          refine lv_topi (fun v32 e32 => ?_)
          have hv32 : iv v32 0 356 := by rw [e32]; exact iv_mul (iv_c (x := (178 : Int32)) (k := 178) (by decide)) hx1_9p (by decide)
          have s32 : v32.toInt = (178 : Int32).toInt * x1.toInt := by rw [e32]; exact iv_mulE (iv_c (x := (178 : Int32)) (k := 178) (by decide)) hx1_9p (by decide)
          have s32 : v32.toInt = 178 * x1.toInt := by rw [s32]; simp only [show (178 : Int32).toInt = 178 from by decide]; try omega
          refine lv_iload_n hx hb dX10_keep_33 rfl (lv_at hl 2 rfl) ?_
          refine lv_iadd hx hb dX10_keep_34 ?_
          refine lv_topi (fun v34 e34 => ?_)
          have hv34 : iv v34 0 533 := by rw [e34]; exact iv_w (iv_add hv32 hj17_L2_21l (by decide)) (by decide)
          have s34 : v34.toInt = v32.toInt + j17_L2.toInt := by rw [e34]; exact iv_addE hv32 hj17_L2_21l (by decide)
          refine lv_aload_n hx hb dX10_keep_35 rfl (lv_at hl 0 rfl) ?_
          refine ti_getr hx hb hts inlX10 hown hK hT ha0 rfl rfl rfl 1 (by decide) (hts _ kw_130) (fun _ h9 => h9) rfl dX10_keep_36 (fun v36 hv36 hm36 => ?_)
          refine lv_iload_n hx hb dX10_keep_39 rfl (lv_at hl 2 rfl) ?_
          refine ti_ialdD hx hb (aT0 hK) hT hv36 rfl hj17_L2_21l (by decide) (fun j => wfg_i j) dX10_keep_40 (fun v40 dv40 hm40 => ?_)
          refine ti_iastD hx hb (aT0 hK) hT hS hv25 rfl rfl hv34 (by decide) (img_p (k := x1.toNatClampNeg) (i := j17_L2.toNatClampNeg) dv40 (by have b0a := (hx1_9p).1; have b0b := (hx1_9p).2; have b1a := (hv1_9p).1; have b1b := (hv1_9p).2; have b2a := (hv6_9l).1; have b2b := (hv6_9l).2; have b3a := (hj17_L2_21l).1; have b3b := (hj17_L2_21l).2; have b4a := (hv32).1; have b4b := (hv32).2; have b5a := (hv34).1; have b5b := (hv34).2; have b6a := ((iv_top v40)).1; have b6b := ((iv_top v40)).2; show v34.toInt.toNat = 178 * x1.toInt.toNat + j17_L2.toInt.toNat; omega) (by have b0a := (hx1_9p).1; have b0b := (hx1_9p).2; have b1a := (hv1_9p).1; have b1b := (hv1_9p).2; have b2a := (hv6_9l).1; have b2b := (hv6_9l).2; have b3a := (hj17_L2_21l).1; have b3b := (hj17_L2_21l).2; have b4a := (hv32).1; have b4b := (hv32).2; have b5a := (hv34).1; have b5b := (hv34).2; have b6a := ((iv_top v40)).1; have b6b := ((iv_top v40)).2; show j17_L2.toInt.toNat < 178; omega)) (fun _ _ => trivial) dX10_keep_41 (fun H locs hT hS oq41 he41 hk41 => ?_)
          obtain ⟨v42, e42⟩ : ∃ y : Int32, y = j17_L2 + 1 := ⟨_, rfl⟩
          have hv42 : iv v42 1 178 := by rw [e42]; exact iv_w (iv_add hj17_L2_21l (iv_c (x := (1 : Int32)) (k := 1) (by decide)) (by decide)) (by decide)
          have s42 : v42.toInt = j17_L2.toInt + 1 := by rw [e42, iv_addE hj17_L2_21l (iv_c (x := (1 : Int32)) (k := 1) (by decide)) (by decide)]; rfl
          refine lv_iinc (v := v42) (lv' := [(2, .int v42), (0, .ref a0), (1, .int x1)]) hx hb dX10_keep_42 hl (k := 2) rfl (by rw [e42]; rfl) (by decide) rfl (fun ls hl => ?_)
          refine lv_goto (tgt := 17) hx hb dX10_keep_45 (by decide) ?_
          exact ih17 v42 _ _ _ (ms_up hms17 (by have := s42; omega) (iv_w (c := 1) (d := 178) hv42 (by decide)).2) (iv_w hv42 (by decide)) (fun q hq => by
            have e9 := hU 31 q v25 (by decide) hq hv25
            subst e9
            exact cpy_step (hX17_0 _ hq) he41 hk41 (by have b0a := (hx1_9p).1; have b0b := (hx1_9p).2; have b1a := (hv1_9p).1; have b1b := (hv1_9p).2; have b2a := (hv6_9l).1; have b2b := (hv6_9l).2; have b3a := (hj17_L2_21l).1; have b3b := (hj17_L2_21l).2; have b4a := (hv32).1; have b4b := (hv32).2; have b5a := (hv34).1; have b5b := (hv34).2; have b6a := ((iv_top v40)).1; have b6b := ((iv_top v40)).2; have b7a := (hv42).1; have b7b := (hv42).2; show v34.toInt.toNat = 178 * x1.toInt.toNat + j17_L2.toInt.toNat; omega) (by have b0a := (hx1_9p).1; have b0b := (hx1_9p).2; have b1a := (hv1_9p).1; have b1b := (hv1_9p).2; have b2a := (hv6_9l).1; have b2b := (hv6_9l).2; have b3a := (hj17_L2_21l).1; have b3b := (hj17_L2_21l).2; have b4a := (hv32).1; have b4b := (hv32).2; have b5a := (hv34).1; have b5b := (hv34).2; have b6a := ((iv_top v40)).1; have b6b := ((iv_top v40)).2; have b7a := (hv42).1; have b7b := (hv42).2; show v42.toInt.toNat = j17_L2.toInt.toNat + 1; omega) dv40) hT hS (lv_sub hl [1, 2, 0] rfl)
    refine lv_istore_n (lv' := [(2, .int (0 : Int32)), (0, .ref a0), (1, .int x1)]) hx hb dX10_keep_16 rfl hl (by decide) rfl (fun ls hl => ?_)
    exact J17 _ (0 : Int32) _ _ _ (Nat.lt_succ_self _) (iv_w (iv_c (x := (0 : Int32)) (k := 0) (by decide)) (by decide)) (fun q hq j hj => absurd hj nlt0) hT hS (lv_sub hl [1, 2, 0] rfl)
  · skip
    have kl0 : (0 : Int32).toInt = 0 := by decide
    have f9 := i_eq c9
    have hv6_9l : iv v6 0 0 := iv_eql hv6 (iv_c (x := (0 : Int32)) (k := 0) (by decide)) c9 (by decide)
    refine lv_bipush (v := (-2)) hx hb dX10_keep_12 (by decide) ?_
    exact ret _ _ _ _ _ dX10_keep_14 (⟨⟨_, fun j h9 => rfl, hT⟩, iv_w (iv_c (x := (-2 : Int32)) (k := (-2)) (by decide)) (by decide)⟩) hS
set_option maxHeartbeats 4000000 in
set_option maxRecDepth 100000 in
theorem t_X10_back (l : Launch) {D : va_G} {c0 : Nat → ClassId} {Y : Nat → Option Nat} {ν : Nat → Nat} {H : Heap} (hT : TI D vwCl (tysOf c0) (RTg ν) Y H) {a0 : Nat} (ha0 : Y a0 = some 10) {x1 : Int32} (hx1 : iv x1 (-2147483648) 2147483647) (hU : uq Y) : Met l yX10_back (wz yX10_back cX10_back 3 (some .int)) { frames := 1, cells := 0, slots := 0, locals := 25 } (TP D vwCl (tysOf c0) H [.ref a0, .int x1]) (TQi (fun x H' => TI D vwCl (tysOf c0) (RTg ν) Y H' ∧ iv x (-6) 0) Y [10, 30]) 0 0 (pW Y [10, 30]) := by
  refine Met.ofW (cc := cX10_back) (maxL := 3) (ret := (some .int)) (by decide) rfl ?_
  intro p e s m args below meth c s₁ B hml hv
  obtain ⟨rfl, rfl, hK⟩ := hv
  have hx := B.exec
  have hb := B.bytes
  have hr := B.returns
  have hts : ∀ w ∈ wq, w.before _ s = true := fun w h => atoms_spec (ws := wz yX10_back cX10_back 3 (some .int)) B.pre w (List.mem_cons_of_mem _ h)
  have hown : s.vm.findClass RX10 = some m.cls := findClass_of_methodNamed B.named
  have hlocks := B.notSynchronized
  obtain ⟨R, hR⟩ : ∃ R : Room, R = ({ frames := 1, cells := 0, slots := 0, locals := 25 } : Room) := ⟨_, rfl⟩
  rw [show (headSpec (wz yX10_back cX10_back 3 (some .int)) { frames := 1, cells := 0, slots := 0, locals := 25 }).room = R from hR.symm]
  refine ti_mi hx hb hr hlocks (fun Q ret => ?_)
  have hl := lv_entry [.ref a0, .int x1] (n := 3) (Nat.le_of_ble_eq_true rfl)
  rw [lg_entry_eq]
  generalize (lg_sl [.ref a0, .int x1] ++ List.replicate (3 - (lg_sl [.ref a0, .int x1]).length) Slot.unset).toArray = ls at hl ⊢
  have hl : lv_has ls 3 [(0, .ref a0), (1, .int x1)] := hl
  refine ti_gen (P := fun H => TI D vwCl (tysOf c0) (RTg ν) Y H) (Y := Y) (ws := [10, 30]) hT (fun H locs hT hS => ?_)
  refine lv_iload_n hx hb dX10_back_0 rfl (lv_at hl 1 rfl) ?_
  refine lv_i2l hx hb dX10_back_1 rfl ?_
  refine lv_topl (fun v1 e1 => ?_)
  have hv1 : jv v1 (-2147483648) 2147483647 := by rw [e1]; exact jv_i hx1
  have t1 : v1.toInt = x1.toInt := by rw [e1]; exact jv_e _
  refine lv_lconst (v := 0) hx hb dX10_back_2 (by decide) ?_
  have kj0 : (0 : Int64).toInt = 0 := by decide
  refine lv_ldc2 (v := 2) hx hb hown (hts _ kw_1218) dX10_back_3 ?_
  have kj2 : (2 : Int64).toInt = 2 := by decide
  refine ti_calli (va_runS (As := [.long v1, .long (0 : Int64), .long (2 : Int64)]) (rest := []) ⟨hx, hb, hml, hown, hts⟩ (t_X10_in l hT (jv_w hv1 (by decide)) (jv_w (jv_c (x := (0 : Int64)) (k := 0) (by decide)) (by decide)) (jv_w (jv_c (x := (2 : Int64)) (k := 2) (by decide)) (by decide))) (cwS 3 hts (good_S kw_181 kw_182 kw_5 kw_183) rfl rfl rfl (by decide +kernel) ⟨by rw [hR]; decide, by rw [hR]; decide⟩) (ti_preS hK) rfl rfl hl.1 rfl (lv_room (Nat.le_of_ble_eq_true rfl)) dX10_back_6 ⟨Nat.zero_le _, Nat.zero_le _⟩) hS (pW_sub rfl) (fun v6 H1 locs hB hS _ hk6 => ?_)
  obtain ⟨hH, hv6, hp6⟩ := hB
  rw [hH] at hS ⊢
  refine lv_if_ne (tgt := 15) hx hb dX10_back_9 (by decide) (fun c9 => ?_) (fun c9 => ?_)
  · skip
    have kl0 : (0 : Int32).toInt = 0 := by decide
    have f9 := i_ne c9
    have hv6_9l : iv v6 1 1 := iv_nel hv6 (iv_c (x := (0 : Int32)) (k := 0) (by decide)) c9 (by decide)
    have hv1_9p : jv v1 0 2 := by have b0a := (hv1).1; have b0b := (hv1).2; have b1a := ((jv_c (x := (0 : Int64)) (k := 0) (by decide))).1; have b1b := ((jv_c (x := (0 : Int64)) (k := 0) (by decide))).2; have b2a := ((jv_c (x := (2 : Int64)) (k := 2) (by decide))).1; have b2b := ((jv_c (x := (2 : Int64)) (k := 2) (by decide))).2; exact ⟨by omega, by omega⟩
    have hx1_9p : iv x1 0 2 := by have := t1; have b0a := (hv1_9p).1; have b0b := (hv1_9p).2; have b1a := (hx1).1; have b1b := (hx1).2; exact ⟨by omega, by omega⟩
    refine lv_aload_n hx hb dX10_back_15 rfl (lv_at hl 0 rfl) ?_
    refine ti_getr hx hb hts inlX10 hown hK hT ha0 rfl rfl rfl 4 (by decide) (hts _ kw_133) (fun _ h9 => h9) rfl dX10_back_16 (fun v16 hv16 hm16 => ?_)
    refine lv_iload_n hx hb dX10_back_19 rfl (lv_at hl 1 rfl) ?_
    refine ti_zaldD hx hb (aT2 hK) hT hv16 rfl hx1_9p (by decide) (fun j => flag_i j) dX10_back_20 (fun v20 dv20 _ => ?_)
    obtain ⟨hv20, hfl⟩ := flag_g dv20
    refine lv_if_ne (tgt := 27) hx hb dX10_back_21 (by decide) (fun c21 => ?_) (fun c21 => ?_)
    · skip
      have f21 := i_ne c21
      have hv20_21l : iv v20 1 1 := iv_nel hv20 (iv_c (x := (0 : Int32)) (k := 0) (by decide)) c21 (by decide)
      refine lv_iconst (v := 0) hx hb dX10_back_27 (by decide) ?_
      have J29 : ∀ (n : Nat) (j29_L2 : Int32) (H : Heap) (locs : List Loc) (ls : Array Slot), (178 - j29_L2.toInt).toNat < n → iv j29_L2 0 178 → TI D vwCl (tysOf c0) (RTg ν) Y H → va_S (pW Y [10, 30]) s.heap H locs → lv_has ls 3 [(0, .ref a0), (1, .int x1), (2, .int j29_L2)] → W p l e R s m ([.ref a0, .int x1] : List Value).toArray below meth c H locs 0 0 Q (F0 m 29 ls []) := by
        intro n
        induction n with
        | zero => intro j29_L2 H locs ls hms; exact absurd hms (Nat.not_lt_zero _)
        | succ n ih29 =>
          intro j29_L2 H locs ls hms29 hj29_L2 hT hS hl
          refine lv_iload_n hx hb dX10_back_29 rfl (lv_at hl 2 rfl) ?_
          refine lv_sipush (v := 178) hx hb dX10_back_30 (by decide) ?_
          refine lv_icmp_ge (tgt := 60) hx hb dX10_back_33 (by decide) (fun c33 => ?_) (fun c33 => ?_)
          · skip
            have kl178 : (178 : Int32).toInt = 178 := by decide
            have f33 := i_le c33
            have hj29_L2_33r : iv j29_L2 178 178 := iv_ler (iv_c (x := (178 : Int32)) (k := 178) (by decide)) hj29_L2 c33 (by decide)
            refine lv_aload_n hx hb dX10_back_60 rfl (lv_at hl 0 rfl) ?_
            refine lv_aload_n hx hb dX10_back_61 rfl (lv_at hl 0 rfl) ?_
            refine ti_getr hx hb hts inlX10 hown hK hT ha0 rfl rfl rfl 3 (by decide) (hts _ kw_132) (fun _ h9 => h9) rfl dX10_back_62 (fun v62 hv62 hm62 => ?_)
            refine lv_iload_n hx hb dX10_back_65 rfl (lv_at hl 1 rfl) ?_
            refine ti_lald hx hb (aT3 hK) hT hv62 rfl hx1_9p (by decide) (fun _ _ _ => rfl) dX10_back_66 (fun v66 hm66 => ?_)
            refine ti_put (ty := .long) hx hb hts inlX10 tyX10 tyX10_ok nmX10 hown hK hT hS ha0 rfl rfl rfl rfl 16 (by decide) (hts _ kw_382) (fun _ h9 => h9) rfl rfl (by decide +kernel) rfl rfl ⟨v66, rfl⟩ (fun _ _ => trivial) dX10_back_67 (fun H locs hT hS oq67 he67 hk67 => ?_)
            refine lv_iconst (v := 0) hx hb dX10_back_70 (by decide) ?_
            exact ret _ _ _ _ _ dX10_back_71 (⟨hT, iv_w (iv_c (x := (0 : Int32)) (k := 0) (by decide)) (by decide)⟩) hS
          · skip
            have kl178 : (178 : Int32).toInt = 178 := by decide
            have f33 := i_nle c33
            have hj29_L2_33l : iv j29_L2 0 177 := iv_ltl hj29_L2 (iv_c (x := (178 : Int32)) (k := 178) (by decide)) (Int32.not_le.mp c33) (by decide)
            refine lv_aload_n hx hb dX10_back_36 rfl (lv_at hl 0 rfl) ?_
            refine ti_getr hx hb hts inlX10 hown hK hT ha0 rfl rfl rfl 1 (by decide) (hts _ kw_130) (fun _ h9 => h9) rfl dX10_back_37 (fun v37 hv37 hm37 => ?_)
            refine lv_iload_n hx hb dX10_back_40 rfl (lv_at hl 2 rfl) ?_
            refine lv_aload_n hx hb dX10_back_41 rfl (lv_at hl 0 rfl) ?_
            refine ti_getr hx hb hts inlX10 hown hK hT ha0 rfl rfl rfl 2 (by decide) (hts _ kw_131) (fun _ h9 => h9) rfl dX10_back_42 (fun v42 hv42 hm42 => ?_)
            refine lv_sipush (v := 178) hx hb dX10_back_45 (by decide) ?_
            refine lv_iload_n hx hb dX10_back_48 rfl (lv_at hl 1 rfl) ?_
            refine lv_imul hx hb dX10_back_49 ?_
            refine lv_topi (fun v49 e49 => ?_)
            have hv49 : iv v49 0 356 := by rw [e49]; exact iv_mul (iv_c (x := (178 : Int32)) (k := 178) (by decide)) hx1_9p (by decide)
            have s49 : v49.toInt = (178 : Int32).toInt * x1.toInt := by rw [e49]; exact iv_mulE (iv_c (x := (178 : Int32)) (k := 178) (by decide)) hx1_9p (by decide)
            have s49 : v49.toInt = 178 * x1.toInt := by rw [s49]; simp only [show (178 : Int32).toInt = 178 from by decide]; try omega
            refine lv_iload_n hx hb dX10_back_50 rfl (lv_at hl 2 rfl) ?_
            refine lv_iadd hx hb dX10_back_51 ?_
            refine lv_topi (fun v51 e51 => ?_)
            have hv51 : iv v51 0 533 := by rw [e51]; exact iv_w (iv_add hv49 hj29_L2_33l (by decide)) (by decide)
            have s51 : v51.toInt = v49.toInt + j29_L2.toInt := by rw [e51]; exact iv_addE hv49 hj29_L2_33l (by decide)
            refine ti_ialdD hx hb (aT0 hK) hT hv42 rfl hv51 (by decide) (fun j => img_i j) dX10_back_52 (fun v52 dv52 hm52 => ?_)
            refine ti_iastD hx hb (aT0 hK) hT hS hv37 rfl rfl hj29_L2_33l (by decide) (img_g (k := x1.toNatClampNeg) dv52 (hfl (by have b0a := (hx1_9p).1; have b0b := (hx1_9p).2; have b1a := (hv1_9p).1; have b1b := (hv1_9p).2; have b2a := (hv6_9l).1; have b2b := (hv6_9l).2; have b3a := (hv20_21l).1; have b3b := (hv20_21l).2; have b4a := (hj29_L2_33l).1; have b4b := (hj29_L2_33l).2; have b5a := (hv49).1; have b5b := (hv49).2; have b6a := (hv51).1; have b6b := (hv51).2; have b7a := ((iv_top v52)).1; have b7b := ((iv_top v52)).2; omega)) (by have b0a := (hx1_9p).1; have b0b := (hx1_9p).2; have b1a := (hv1_9p).1; have b1b := (hv1_9p).2; have b2a := (hv6_9l).1; have b2b := (hv6_9l).2; have b3a := (hv20_21l).1; have b3b := (hv20_21l).2; have b4a := (hj29_L2_33l).1; have b4b := (hj29_L2_33l).2; have b5a := (hv49).1; have b5b := (hv49).2; have b6a := (hv51).1; have b6b := (hv51).2; have b7a := ((iv_top v52)).1; have b7b := ((iv_top v52)).2; show v51.toInt.toNat = 178 * x1.toInt.toNat + j29_L2.toInt.toNat; omega) (by have b0a := (hx1_9p).1; have b0b := (hx1_9p).2; have b1a := (hv1_9p).1; have b1b := (hv1_9p).2; have b2a := (hv6_9l).1; have b2b := (hv6_9l).2; have b3a := (hv20_21l).1; have b3b := (hv20_21l).2; have b4a := (hj29_L2_33l).1; have b4b := (hj29_L2_33l).2; have b5a := (hv49).1; have b5b := (hv49).2; have b6a := (hv51).1; have b6b := (hv51).2; have b7a := ((iv_top v52)).1; have b7b := ((iv_top v52)).2; show j29_L2.toInt.toNat < 178; omega)) (fun _ _ => trivial) dX10_back_53 (fun H locs hT hS oq53 he53 hk53 => ?_)
            obtain ⟨v54, e54⟩ : ∃ y : Int32, y = j29_L2 + 1 := ⟨_, rfl⟩
            have hv54 : iv v54 1 178 := by rw [e54]; exact iv_w (iv_add hj29_L2_33l (iv_c (x := (1 : Int32)) (k := 1) (by decide)) (by decide)) (by decide)
            have s54 : v54.toInt = j29_L2.toInt + 1 := by rw [e54, iv_addE hj29_L2_33l (iv_c (x := (1 : Int32)) (k := 1) (by decide)) (by decide)]; rfl
            refine lv_iinc (v := v54) (lv' := [(2, .int v54), (0, .ref a0), (1, .int x1)]) hx hb dX10_back_54 hl (k := 2) rfl (by rw [e54]; rfl) (by decide) rfl (fun ls hl => ?_)
            refine lv_goto (tgt := 29) hx hb dX10_back_57 (by decide) ?_
            exact ih29 v54 _ _ _ (ms_up hms29 (by have := s54; omega) (iv_w (c := 1) (d := 178) hv54 (by decide)).2) (iv_w hv54 (by decide)) hT hS (lv_sub hl [1, 2, 0] rfl)
      refine lv_istore_n (lv' := [(2, .int (0 : Int32)), (0, .ref a0), (1, .int x1)]) hx hb dX10_back_28 rfl hl (by decide) rfl (fun ls hl => ?_)
      exact J29 _ (0 : Int32) _ _ _ (Nat.lt_succ_self _) (iv_w (iv_c (x := (0 : Int32)) (k := 0) (by decide)) (by decide)) hT hS (lv_sub hl [1, 2, 0] rfl)
    · skip
      have f21 := i_eq c21
      have hv20_21l : iv v20 0 0 := iv_eql hv20 (iv_c (x := (0 : Int32)) (k := 0) (by decide)) c21 (by decide)
      refine lv_bipush (v := (-6)) hx hb dX10_back_24 (by decide) ?_
      exact ret _ _ _ _ _ dX10_back_26 (⟨hT, iv_w (iv_c (x := (-6 : Int32)) (k := (-6)) (by decide)) (by decide)⟩) hS
  · skip
    have kl0 : (0 : Int32).toInt = 0 := by decide
    have f9 := i_eq c9
    have hv6_9l : iv v6 0 0 := iv_eql hv6 (iv_c (x := (0 : Int32)) (k := 0) (by decide)) c9 (by decide)
    refine lv_bipush (v := (-2)) hx hb dX10_back_12 (by decide) ?_
    exact ret _ _ _ _ _ dX10_back_14 (⟨hT, iv_w (iv_c (x := (-2 : Int32)) (k := (-2)) (by decide)) (by decide)⟩) hS
set_option maxHeartbeats 4000000 in
set_option maxRecDepth 100000 in
theorem t_X10_of (l : Launch) {D : va_G} {c0 : Nat → ClassId} {Y : Nat → Option Nat} {ν : Nat → Nat} {H : Heap} (hT : TI D vwCl (tysOf c0) (RTg ν) Y H) {a0 : Nat} (ha0 : Y a0 = some 10) {x1 : Int32} (hx1 : iv x1 0 7) {x2 : Int32} (hx2 : iv x2 0 9) (hU : uq Y) : Met l yX10_of (wz yX10_of cX10_of 3 (some .int)) { frames := 0, cells := 0, slots := 0, locals := 0 } (TP D vwCl (tysOf c0) H [.ref a0, .int x1, .int x2]) (TQi (fun x H' => H' = H ∧ (((x2.toInt = 0 → x.toInt ≤ 100000) ∧ wv D a0 (16 + 10 * x1.toNatClampNeg + x2.toNatClampNeg) x H))) Y []) 0 0 (pW Y []) := by
  refine Met.ofW (cc := cX10_of) (maxL := 3) (ret := (some .int)) (by decide) rfl ?_
  intro p e s m args below meth c s₁ B hml hv
  obtain ⟨rfl, rfl, hK⟩ := hv
  have hx := B.exec
  have hb := B.bytes
  have hr := B.returns
  have hts : ∀ w ∈ wq, w.before _ s = true := fun w h => atoms_spec (ws := wz yX10_of cX10_of 3 (some .int)) B.pre w (List.mem_cons_of_mem _ h)
  have hown : s.vm.findClass RX10 = some m.cls := findClass_of_methodNamed B.named
  have hlocks := B.notSynchronized
  obtain ⟨R, hR⟩ : ∃ R : Room, R = ({ frames := 0, cells := 0, slots := 0, locals := 0 } : Room) := ⟨_, rfl⟩
  rw [show (headSpec (wz yX10_of cX10_of 3 (some .int)) { frames := 0, cells := 0, slots := 0, locals := 0 }).room = R from hR.symm]
  refine ti_mi hx hb hr hlocks (fun Q ret => ?_)
  have hl := lv_entry [.ref a0, .int x1, .int x2] (n := 3) (Nat.le_of_ble_eq_true rfl)
  rw [lg_entry_eq]
  generalize (lg_sl [.ref a0, .int x1, .int x2] ++ List.replicate (3 - (lg_sl [.ref a0, .int x1, .int x2]).length) Slot.unset).toArray = ls at hl ⊢
  have hl : lv_has ls 3 [(0, .ref a0), (1, .int x1), (2, .int x2)] := hl
  have hS : va_S (pW Y []) s.heap s.heap [] := va_S.rf
  refine lv_aload_n hx hb dX10_of_0 rfl (lv_at hl 0 rfl) ?_
  refine ti_getr hx hb hts inlX10 hown hK hT ha0 rfl rfl rfl 1 (by decide) (hts _ kw_130) (fun _ h9 => h9) rfl dX10_of_1 (fun v1 hv1 hm1 => ?_)
  refine lv_bipush (v := 16) hx hb dX10_of_4 (by decide) ?_
  refine lv_bipush (v := 10) hx hb dX10_of_6 (by decide) ?_
  refine lv_iload_n hx hb dX10_of_8 rfl (lv_at hl 1 rfl) ?_
  refine lv_imul hx hb dX10_of_9 ?_
  refine lv_topi (fun v9 e9 => ?_)
  have hv9 : iv v9 0 70 := by rw [e9]; exact iv_mul (iv_c (x := (10 : Int32)) (k := 10) (by decide)) hx1 (by decide)
  have kl10 : (10 : Int32).toInt = 10 := by decide
  have s9 : v9.toInt = (10 : Int32).toInt * x1.toInt := by rw [e9]; exact iv_mulE (iv_c (x := (10 : Int32)) (k := 10) (by decide)) hx1 (by decide)
  have s9 : v9.toInt = 10 * x1.toInt := by rw [s9]; simp only [show (10 : Int32).toInt = 10 from by decide]; try omega
  refine lv_iadd hx hb dX10_of_10 ?_
  refine lv_topi (fun v10 e10 => ?_)
  have hv10 : iv v10 16 86 := by rw [e10]; exact iv_w (iv_add (iv_c (x := (16 : Int32)) (k := 16) (by decide)) hv9 (by decide)) (by decide)
  have s10 : v10.toInt = (16 : Int32).toInt + v9.toInt := by rw [e10]; exact iv_addE (iv_c (x := (16 : Int32)) (k := 16) (by decide)) hv9 (by decide)
  have kl16 : (16 : Int32).toInt = 16 := by decide
  refine lv_iload_n hx hb dX10_of_11 rfl (lv_at hl 2 rfl) ?_
  refine lv_iadd hx hb dX10_of_12 ?_
  refine lv_topi (fun v12 e12 => ?_)
  have hv12 : iv v12 16 95 := by rw [e12]; exact iv_w (iv_add hv10 hx2 (by decide)) (by decide)
  have s12 : v12.toInt = v10.toInt + x2.toInt := by rw [e12]; exact iv_addE hv10 hx2 (by decide)
  refine ti_ialdD hx hb (aT0 hK) hT hv1 rfl hv12 (by decide) (fun j => wfg_i j) dX10_of_13 (fun v13 dv13 hm13 => ?_)
  exact ret _ _ _ _ _ dX10_of_14 (⟨rfl, ⟨fun h9 => of_le dv13 (p := x1.toNatClampNeg) (by have b0a := (hx1).1; have b0b := (hx1).2; have b1a := (hx2).1; have b1b := (hx2).2; have b2a := (hv9).1; have b2b := (hv9).2; have b3a := (hv10).1; have b3b := (hv10).2; have b4a := (hv12).1; have b4b := (hv12).2; have b5a := ((iv_top v13)).1; have b5b := ((iv_top v13)).2; show v12.toInt.toNat = 16 + 10 * x1.toInt.toNat; omega) (by have b0a := (hx1).1; have b0b := (hx1).2; have b1a := (hx2).1; have b1b := (hx2).2; have b2a := (hv9).1; have b2b := (hv9).2; have b3a := (hv10).1; have b3b := (hv10).2; have b4a := (hv12).1; have b4b := (hv12).2; have b5a := ((iv_top v13)).1; have b5b := ((iv_top v13)).2; show x1.toInt.toNat < 8; omega), v1, hm1, by rw [show 16 + 10 * x1.toNatClampNeg + x2.toNatClampNeg = v12.toNatClampNeg from (by have b0a := (hx1).1; have b0b := (hx1).2; have b1a := (hx2).1; have b1b := (hx2).2; have b2a := (hv9).1; have b2b := (hv9).2; have b3a := (hv10).1; have b3b := (hv10).2; have b4a := (hv12).1; have b4b := (hv12).2; have b5a := ((iv_top v13)).1; have b5b := ((iv_top v13)).2; show 16 + 10 * x1.toInt.toNat + x2.toInt.toNat = v12.toInt.toNat; omega)]; exact hm13⟩⟩) hS
set_option maxHeartbeats 4000000 in
set_option maxRecDepth 100000 in
theorem t_X10_set (l : Launch) {D : va_G} {c0 : Nat → ClassId} {Y : Nat → Option Nat} {ν : Nat → Nat} {H : Heap} (hT : TI D vwCl (tysOf c0) (RTg ν) Y H) {a0 : Nat} (ha0 : Y a0 = some 10) {x1 : Int32} (hx1 : iv x1 0 7) {x2 : Int32} (hx2 : iv x2 0 4) {x3 : Int32} (hx3 : iv x3 (-2147483648) 2147483647) (hpre : x2.toInt = 0 → x3.toInt ≤ 100000) (hU : uq Y) : Met l yX10_set (wz yX10_set cX10_set 4 none) { frames := 0, cells := 0, slots := 0, locals := 0 } (TP D vwCl (tysOf c0) H [.ref a0, .int x1, .int x2, .int x3]) (TQv (fun H' => TI D vwCl (tysOf c0) (RTg ν) Y H' ∧ ((∀ k9 : Int32, wv D a0 9 k9 H → wv D a0 9 k9 H'))) Y [30]) 0 0 (pW Y [30]) := by
  refine Met.ofW (cc := cX10_set) (maxL := 4) (ret := none) (by decide) rfl ?_
  intro p e s m args below meth c s₁ B hml hv
  obtain ⟨rfl, rfl, hK⟩ := hv
  have hx := B.exec
  have hb := B.bytes
  have hr := B.returns
  have hts : ∀ w ∈ wq, w.before _ s = true := fun w h => atoms_spec (ws := wz yX10_set cX10_set 4 none) B.pre w (List.mem_cons_of_mem _ h)
  have hown : s.vm.findClass RX10 = some m.cls := findClass_of_methodNamed B.named
  have hlocks := B.notSynchronized
  obtain ⟨R, hR⟩ : ∃ R : Room, R = ({ frames := 0, cells := 0, slots := 0, locals := 0 } : Room) := ⟨_, rfl⟩
  rw [show (headSpec (wz yX10_set cX10_set 4 none) { frames := 0, cells := 0, slots := 0, locals := 0 }).room = R from hR.symm]
  refine ti_mv hx hb hr hlocks (fun Q ret => ?_)
  have hl := lv_entry [.ref a0, .int x1, .int x2, .int x3] (n := 4) (Nat.le_of_ble_eq_true rfl)
  rw [lg_entry_eq]
  generalize (lg_sl [.ref a0, .int x1, .int x2, .int x3] ++ List.replicate (4 - (lg_sl [.ref a0, .int x1, .int x2, .int x3]).length) Slot.unset).toArray = ls at hl ⊢
  have hl : lv_has ls 4 [(0, .ref a0), (1, .int x1), (2, .int x2), (3, .int x3)] := hl
  refine ti_gen (P := fun H => TI D vwCl (tysOf c0) (RTg ν) Y H ∧ (∀ k9 : Int32, wv D a0 9 k9 s.heap → wv D a0 9 k9 H)) (Y := Y) (ws := [30]) ⟨hT, fun _ h => h⟩ (fun H locs hT hS => ?_)
  obtain ⟨hT, h9k⟩ := hT
  refine lv_aload_n hx hb dX10_set_0 rfl (lv_at hl 0 rfl) ?_
  refine ti_getr hx hb hts inlX10 hown hK hT ha0 rfl rfl rfl 1 (by decide) (hts _ kw_130) (fun _ h9 => h9) rfl dX10_set_1 (fun v1 hv1 hm1 => ?_)
  refine lv_bipush (v := 16) hx hb dX10_set_4 (by decide) ?_
  refine lv_bipush (v := 10) hx hb dX10_set_6 (by decide) ?_
  refine lv_iload_n hx hb dX10_set_8 rfl (lv_at hl 1 rfl) ?_
  refine lv_imul hx hb dX10_set_9 ?_
  refine lv_topi (fun v9 e9 => ?_)
  have hv9 : iv v9 0 70 := by rw [e9]; exact iv_mul (iv_c (x := (10 : Int32)) (k := 10) (by decide)) hx1 (by decide)
  have kl10 : (10 : Int32).toInt = 10 := by decide
  have s9 : v9.toInt = (10 : Int32).toInt * x1.toInt := by rw [e9]; exact iv_mulE (iv_c (x := (10 : Int32)) (k := 10) (by decide)) hx1 (by decide)
  have s9 : v9.toInt = 10 * x1.toInt := by rw [s9]; simp only [show (10 : Int32).toInt = 10 from by decide]; try omega
  refine lv_iadd hx hb dX10_set_10 ?_
  refine lv_topi (fun v10 e10 => ?_)
  have hv10 : iv v10 16 86 := by rw [e10]; exact iv_w (iv_add (iv_c (x := (16 : Int32)) (k := 16) (by decide)) hv9 (by decide)) (by decide)
  have s10 : v10.toInt = (16 : Int32).toInt + v9.toInt := by rw [e10]; exact iv_addE (iv_c (x := (16 : Int32)) (k := 16) (by decide)) hv9 (by decide)
  have kl16 : (16 : Int32).toInt = 16 := by decide
  refine lv_iload_n hx hb dX10_set_11 rfl (lv_at hl 2 rfl) ?_
  refine lv_iadd hx hb dX10_set_12 ?_
  refine lv_topi (fun v12 e12 => ?_)
  have hv12 : iv v12 16 90 := by rw [e12]; exact iv_w (iv_add hv10 hx2 (by decide)) (by decide)
  have s12 : v12.toInt = v10.toInt + x2.toInt := by rw [e12]; exact iv_addE hv10 hx2 (by decide)
  refine lv_iload_n hx hb dX10_set_13 rfl (lv_at hl 3 rfl) ?_
  refine ti_iastD hx hb (aT0 hK) hT hS hv1 rfl rfl hv12 (by decide) (set_g (p := x1.toNatClampNeg) (w := x2.toNatClampNeg) (by have b0a := (hx1).1; have b0b := (hx1).2; have b1a := (hx2).1; have b1b := (hx2).2; have b2a := (hx3).1; have b2b := (hx3).2; have b3a := (hv9).1; have b3b := (hv9).2; have b4a := (hv10).1; have b4b := (hv10).2; have b5a := (hv12).1; have b5b := (hv12).2; show v12.toInt.toNat = 16 + 10 * x1.toInt.toNat + x2.toInt.toNat; omega) (by have b0a := (hx1).1; have b0b := (hx1).2; have b1a := (hx2).1; have b1b := (hx2).2; have b2a := (hx3).1; have b2b := (hx3).2; have b3a := (hv9).1; have b3b := (hv9).2; have b4a := (hv10).1; have b4b := (hv10).2; have b5a := (hv12).1; have b5b := (hv12).2; show x1.toInt.toNat < 8; omega) (by have b0a := (hx1).1; have b0b := (hx1).2; have b1a := (hx2).1; have b1b := (hx2).2; have b2a := (hx3).1; have b2b := (hx3).2; have b3a := (hv9).1; have b3b := (hv9).2; have b4a := (hv10).1; have b4b := (hv10).2; have b5a := (hv12).1; have b5b := (hv12).2; show x2.toInt.toNat < 10; omega) (fun h9 => hpre (by have b0a := (hx1).1; have b0b := (hx1).2; have b1a := (hx2).1; have b1b := (hx2).2; have b2a := (hx3).1; have b2b := (hx3).2; have b3a := (hv9).1; have b3b := (hv9).2; have b4a := (hv10).1; have b4b := (hv10).2; have b5a := (hv12).1; have b5b := (hv12).2; have h9 : x2.toInt.toNat = 0 := h9; omega))) (fun _ _ => trivial) dX10_set_14 (fun H locs hT hS oq14 he14 hk14 => ?_)
  exact ret _ _ _ _ dX10_set_15 (⟨hT, fun k9 h9 => by obtain ⟨aw, g1, g2⟩ := h9k k9 h9; cases fi_inj g1 hm1 (q := (RX10, TX10, 38)) rfl (by decide); exact ⟨_, (hm1.kept (oq14 _ (ne_r ha0 hv1 rfl))), hk14 _ _ (by have b0a := (hx1).1; have b0b := (hx1).2; have b1a := (hx2).1; have b1b := (hx2).2; have b2a := (hx3).1; have b2b := (hx3).2; have b3a := (hv9).1; have b3b := (hv9).2; have b4a := (hv10).1; have b4b := (hv10).2; have b5a := (hv12).1; have b5b := (hv12).2; show 9 ≠ v12.toInt.toNat; omega) g2⟩⟩) hS
set_option maxHeartbeats 4000000 in
set_option maxRecDepth 100000 in
theorem t_X10_people (l : Launch) {D : va_G} {c0 : Nat → ClassId} {Y : Nat → Option Nat} {ν : Nat → Nat} {H : Heap} (hT : TI D vwCl (tysOf c0) (RTg ν) Y H) {a0 : Nat} (ha0 : Y a0 = some 10) (hU : uq Y) : Met l yX10_people (wz yX10_people cX10_people 1 (some .int)) { frames := 0, cells := 0, slots := 0, locals := 0 } (TP D vwCl (tysOf c0) H [.ref a0]) (TQi (fun x H' => H' = H ∧ iv x 0 8 ∧ (wv D a0 7 x H)) Y []) 0 0 (pW Y []) := by
  refine Met.ofW (cc := cX10_people) (maxL := 1) (ret := (some .int)) (by decide) rfl ?_
  intro p e s m args below meth c s₁ B hml hv
  obtain ⟨rfl, rfl, hK⟩ := hv
  have hx := B.exec
  have hb := B.bytes
  have hr := B.returns
  have hts : ∀ w ∈ wq, w.before _ s = true := fun w h => atoms_spec (ws := wz yX10_people cX10_people 1 (some .int)) B.pre w (List.mem_cons_of_mem _ h)
  have hown : s.vm.findClass RX10 = some m.cls := findClass_of_methodNamed B.named
  have hlocks := B.notSynchronized
  obtain ⟨R, hR⟩ : ∃ R : Room, R = ({ frames := 0, cells := 0, slots := 0, locals := 0 } : Room) := ⟨_, rfl⟩
  rw [show (headSpec (wz yX10_people cX10_people 1 (some .int)) { frames := 0, cells := 0, slots := 0, locals := 0 }).room = R from hR.symm]
  refine ti_mi hx hb hr hlocks (fun Q ret => ?_)
  have hl := lv_entry [.ref a0] (n := 1) (Nat.le_of_ble_eq_true rfl)
  rw [lg_entry_eq]
  generalize (lg_sl [.ref a0] ++ List.replicate (1 - (lg_sl [.ref a0]).length) Slot.unset).toArray = ls at hl ⊢
  have hl : lv_has ls 1 [(0, .ref a0)] := hl
  have hS : va_S (pW Y []) s.heap s.heap [] := va_S.rf
  refine lv_aload_n hx hb dX10_people_0 rfl (lv_at hl 0 rfl) ?_
  refine ti_getr hx hb hts inlX10 hown hK hT ha0 rfl rfl rfl 1 (by decide) (hts _ kw_130) (fun _ h9 => h9) rfl dX10_people_1 (fun v1 hv1 hm1 => ?_)
  refine lv_bipush (v := 7) hx hb dX10_people_4 (by decide) ?_
  refine ti_iald (lo := 0) (hi := 8) hx hb (aT0 hK) hT hv1 rfl (iv_c (x := (7 : Int32)) (k := 7) (by decide)) (by decide) (one_j 7 rfl rfl (by decide) (by decide)) dX10_people_6 (fun v6 hv6 hm6 => ?_)
  exact ret _ _ _ _ _ dX10_people_7 (⟨rfl, iv_w hv6 (by decide), ⟨v1, hm1, hm6⟩⟩) hS
set_option maxHeartbeats 4000000 in
set_option maxRecDepth 100000 in
theorem t_X10_isPerson (l : Launch) {D : va_G} {c0 : Nat → ClassId} {Y : Nat → Option Nat} {ν : Nat → Nat} {H : Heap} (hT : TI D vwCl (tysOf c0) (RTg ν) Y H) {a0 : Nat} (ha0 : Y a0 = some 10) {x1 : Int32} (hx1 : iv x1 (-2147483648) 2147483647) (hU : uq Y) : Met l yX10_isPerson (wz yX10_isPerson cX10_isPerson 2 (some .boolean)) { frames := 1, cells := 0, slots := 0, locals := 25 } (TP D vwCl (tysOf c0) H [.ref a0, .int x1]) (TQi (fun x H' => H' = H ∧ iv x 0 1 ∧ ((x.toInt = 0 ∨ (0 ≤ x1.toInt ∧ x1.toInt ≤ 7)))) Y []) 0 0 (pW Y []) := by
  refine Met.ofW (cc := cX10_isPerson) (maxL := 2) (ret := (some .boolean)) (by decide) rfl ?_
  intro p e s m args below meth c s₁ B hml hv
  obtain ⟨rfl, rfl, hK⟩ := hv
  have hx := B.exec
  have hb := B.bytes
  have hr := B.returns
  have hts : ∀ w ∈ wq, w.before _ s = true := fun w h => atoms_spec (ws := wz yX10_isPerson cX10_isPerson 2 (some .boolean)) B.pre w (List.mem_cons_of_mem _ h)
  have hown : s.vm.findClass RX10 = some m.cls := findClass_of_methodNamed B.named
  have hlocks := B.notSynchronized
  obtain ⟨R, hR⟩ : ∃ R : Room, R = ({ frames := 1, cells := 0, slots := 0, locals := 25 } : Room) := ⟨_, rfl⟩
  rw [show (headSpec (wz yX10_isPerson cX10_isPerson 2 (some .boolean)) { frames := 1, cells := 0, slots := 0, locals := 25 }).room = R from hR.symm]
  refine ti_mz hx hb hr hlocks (fun Q ret => ?_)
  have hl := lv_entry [.ref a0, .int x1] (n := 2) (Nat.le_of_ble_eq_true rfl)
  rw [lg_entry_eq]
  generalize (lg_sl [.ref a0, .int x1] ++ List.replicate (2 - (lg_sl [.ref a0, .int x1]).length) Slot.unset).toArray = ls at hl ⊢
  have hl : lv_has ls 2 [(0, .ref a0), (1, .int x1)] := hl
  have hS : va_S (pW Y []) s.heap s.heap [] := va_S.rf
  refine lv_iload_n hx hb dX10_isPerson_0 rfl (lv_at hl 1 rfl) ?_
  refine lv_i2l hx hb dX10_isPerson_1 rfl ?_
  refine lv_topl (fun v1 e1 => ?_)
  have hv1 : jv v1 (-2147483648) 2147483647 := by rw [e1]; exact jv_i hx1
  have t1 : v1.toInt = x1.toInt := by rw [e1]; exact jv_e _
  refine lv_lconst (v := 0) hx hb dX10_isPerson_2 (by decide) ?_
  have kj0 : (0 : Int64).toInt = 0 := by decide
  refine lv_aload_n hx hb dX10_isPerson_3 rfl (lv_at hl 0 rfl) ?_
  refine ti_getr hx hb hts inlX10 hown hK hT ha0 rfl rfl rfl 1 (by decide) (hts _ kw_130) (fun _ h9 => h9) rfl dX10_isPerson_4 (fun v4 hv4 hm4 => ?_)
  refine lv_bipush (v := 7) hx hb dX10_isPerson_7 (by decide) ?_
  refine ti_iald (lo := 0) (hi := 8) hx hb (aT0 hK) hT hv4 rfl (iv_c (x := (7 : Int32)) (k := 7) (by decide)) (by decide) (one_j 7 rfl rfl (by decide) (by decide)) dX10_isPerson_9 (fun v9 hv9 hm9 => ?_)
  refine lv_iconst (v := 1) hx hb dX10_isPerson_10 (by decide) ?_
  refine lv_isub hx hb dX10_isPerson_11 ?_
  refine lv_topi (fun v11 e11 => ?_)
  have hv11 : iv v11 (-1) 7 := by rw [e11]; exact iv_w (iv_sub hv9 (iv_c (x := (1 : Int32)) (k := 1) (by decide)) (by decide)) (by decide)
  have s11 : v11.toInt = v9.toInt - (1 : Int32).toInt := by rw [e11]; exact iv_subE hv9 (iv_c (x := (1 : Int32)) (k := 1) (by decide)) (by decide)
  have kl1 : (1 : Int32).toInt = 1 := by decide
  refine lv_i2l hx hb dX10_isPerson_12 rfl ?_
  refine lv_topl (fun v12 e12 => ?_)
  have hv12 : jv v12 (-1) 7 := by rw [e12]; exact jv_i hv11
  have t12 : v12.toInt = v11.toInt := by rw [e12]; exact jv_e _
  refine ti_calli (va_runS (As := [.long v1, .long (0 : Int64), .long v12]) (rest := []) ⟨hx, hb, hml, hown, hts⟩ (t_X10_in l hT (jv_w hv1 (by decide)) (jv_w (jv_c (x := (0 : Int64)) (k := 0) (by decide)) (by decide)) (jv_w hv12 (by decide))) (cwS 3 hts (good_S kw_181 kw_182 kw_5 kw_183) rfl rfl rfl (by decide +kernel) ⟨by rw [hR]; decide, by rw [hR]; decide⟩) (ti_preS hK) rfl rfl hl.1 rfl (lv_room (Nat.le_of_ble_eq_true rfl)) dX10_isPerson_13 ⟨Nat.zero_le _, Nat.zero_le _⟩) hS (pW_sub rfl) (fun v13 H1 locs hB hS _ hk13 => ?_)
  obtain ⟨hH, hv13, hp13⟩ := hB
  rw [hH] at hS ⊢
  exact ret _ _ _ _ _ dX10_isPerson_16 (iv_w hv13 (by decide)) (⟨rfl, iv_w hv13 (by decide), by have b0a := (hx1).1; have b0b := (hx1).2; have b1a := (hv13).1; have b1b := (hv13).2; have b2a := (hv1).1; have b2b := (hv1).2; have b3a := (hv9).1; have b3b := (hv9).2; have b4a := (hv11).1; have b4b := (hv11).2; have b5a := (hv12).1; have b5b := (hv12).2; omega⟩) hS
set_option maxHeartbeats 4000000 in
set_option maxRecDepth 100000 in
theorem t_X10_areTwo (l : Launch) {D : va_G} {c0 : Nat → ClassId} {Y : Nat → Option Nat} {ν : Nat → Nat} {H : Heap} (hT : TI D vwCl (tysOf c0) (RTg ν) Y H) {a0 : Nat} (ha0 : Y a0 = some 10) {x1 : Int32} (hx1 : iv x1 (-2147483648) 2147483647) {x2 : Int32} (hx2 : iv x2 (-2147483648) 2147483647) (hU : uq Y) : Met l yX10_areTwo (wz yX10_areTwo cX10_areTwo 3 (some .boolean)) { frames := 2, cells := 0, slots := 0, locals := 46 } (TP D vwCl (tysOf c0) H [.ref a0, .int x1, .int x2]) (TQi (fun x H' => H' = H ∧ iv x 0 1 ∧ ((x.toInt = 0 ∨ (0 ≤ x1.toInt ∧ x1.toInt ≤ 7) ∧ (0 ≤ x2.toInt ∧ x2.toInt ≤ 7)))) Y []) 0 0 (pW Y []) := by
  refine Met.ofW (cc := cX10_areTwo) (maxL := 3) (ret := (some .boolean)) (by decide) rfl ?_
  intro p e s m args below meth c s₁ B hml hv
  obtain ⟨rfl, rfl, hK⟩ := hv
  have hx := B.exec
  have hb := B.bytes
  have hr := B.returns
  have hts : ∀ w ∈ wq, w.before _ s = true := fun w h => atoms_spec (ws := wz yX10_areTwo cX10_areTwo 3 (some .boolean)) B.pre w (List.mem_cons_of_mem _ h)
  have hown : s.vm.findClass RX10 = some m.cls := findClass_of_methodNamed B.named
  have hlocks := B.notSynchronized
  obtain ⟨R, hR⟩ : ∃ R : Room, R = ({ frames := 2, cells := 0, slots := 0, locals := 46 } : Room) := ⟨_, rfl⟩
  rw [show (headSpec (wz yX10_areTwo cX10_areTwo 3 (some .boolean)) { frames := 2, cells := 0, slots := 0, locals := 46 }).room = R from hR.symm]
  refine ti_mz hx hb hr hlocks (fun Q ret => ?_)
  have hl := lv_entry [.ref a0, .int x1, .int x2] (n := 3) (Nat.le_of_ble_eq_true rfl)
  rw [lg_entry_eq]
  generalize (lg_sl [.ref a0, .int x1, .int x2] ++ List.replicate (3 - (lg_sl [.ref a0, .int x1, .int x2]).length) Slot.unset).toArray = ls at hl ⊢
  have hl : lv_has ls 3 [(0, .ref a0), (1, .int x1), (2, .int x2)] := hl
  have hS : va_S (pW Y []) s.heap s.heap [] := va_S.rf
  refine lv_aload_n hx hb dX10_areTwo_0 rfl (lv_at hl 0 rfl) ?_
  refine lv_iload_n hx hb dX10_areTwo_1 rfl (lv_at hl 1 rfl) ?_
  refine ti_calli (va_runV (As := [.int x1]) (rest := []) ⟨hx, hb, hml, hown, hts⟩ (t_X10_isPerson l hT ha0 (iv_w hx1 (by decide)) hU) (cwV 1 hts (good_V kw_486 kw_487 kw_488 kw_5 kw_489) rfl rfl rfl (by decide +kernel) ⟨by rw [hR]; decide, by rw [hR]; decide⟩) (ti_preV hK hT ha0 rfl rfl) rfl rfl hl.1 rfl (lv_room (Nat.le_of_ble_eq_true rfl)) dX10_areTwo_2 ⟨Nat.zero_le _, Nat.zero_le _⟩) hS (pW_sub rfl) (fun v2 H1 locs hB hS _ hk2 => ?_)
  obtain ⟨hH, hv2, hp2⟩ := hB
  rw [hH] at hS ⊢
  refine lv_if_eq (tgt := 25) hx hb dX10_areTwo_5 (by decide) (fun c5 => ?_) (fun c5 => ?_)
  · skip
    have kl0 : (0 : Int32).toInt = 0 := by decide
    have f5 := i_eq c5
    have hv2_5l : iv v2 0 0 := iv_eql hv2 (iv_c (x := (0 : Int32)) (k := 0) (by decide)) c5 (by decide)
    refine lv_iconst (v := 0) hx hb dX10_areTwo_25 (by decide) ?_
    exact ret _ _ _ _ _ dX10_areTwo_26 (iv_w (iv_c (x := (0 : Int32)) (k := 0) (by decide)) (by decide)) (⟨rfl, iv_w (iv_c (x := (0 : Int32)) (k := 0) (by decide)) (by decide), by have b0a := (hx1).1; have b0b := (hx1).2; have b1a := (hx2).1; have b1b := (hx2).2; have b2a := (hv2_5l).1; have b2b := (hv2_5l).2; omega⟩) hS
  · skip
    have kl0 : (0 : Int32).toInt = 0 := by decide
    have f5 := i_ne c5
    have hv2_5l : iv v2 1 1 := iv_nel hv2 (iv_c (x := (0 : Int32)) (k := 0) (by decide)) c5 (by decide)
    have hx1_5p : iv x1 0 7 := by have b0a := (hx1).1; have b0b := (hx1).2; exact ⟨by omega, by omega⟩
    refine lv_aload_n hx hb dX10_areTwo_8 rfl (lv_at hl 0 rfl) ?_
    refine lv_iload_n hx hb dX10_areTwo_9 rfl (lv_at hl 2 rfl) ?_
    refine ti_calli (va_runV (As := [.int x2]) (rest := []) ⟨hx, hb, hml, hown, hts⟩ (t_X10_isPerson l hT ha0 (iv_w hx2 (by decide)) hU) (cwV 1 hts (good_V kw_486 kw_487 kw_488 kw_5 kw_489) rfl rfl rfl (by decide +kernel) ⟨by rw [hR]; decide, by rw [hR]; decide⟩) (ti_preV hK hT ha0 rfl rfl) rfl rfl hl.1 rfl (lv_room (Nat.le_of_ble_eq_true rfl)) dX10_areTwo_10 ⟨Nat.zero_le _, Nat.zero_le _⟩) hS (pW_sub rfl) (fun v10 H1 locs hB hS _ hk10 => ?_)
    obtain ⟨hH, hv10, hp10⟩ := hB
    rw [hH] at hS ⊢
    refine lv_if_eq (tgt := 25) hx hb dX10_areTwo_13 (by decide) (fun c13 => ?_) (fun c13 => ?_)
    · skip
      have f13 := i_eq c13
      have hv10_13l : iv v10 0 0 := iv_eql hv10 (iv_c (x := (0 : Int32)) (k := 0) (by decide)) c13 (by decide)
      refine lv_iconst (v := 0) hx hb dX10_areTwo_25 (by decide) ?_
      exact ret _ _ _ _ _ dX10_areTwo_26 (iv_w (iv_c (x := (0 : Int32)) (k := 0) (by decide)) (by decide)) (⟨rfl, iv_w (iv_c (x := (0 : Int32)) (k := 0) (by decide)) (by decide), by have b0a := (hx1_5p).1; have b0b := (hx1_5p).2; have b1a := (hx2).1; have b1b := (hx2).2; have b2a := (hv2_5l).1; have b2b := (hv2_5l).2; have b3a := (hv10_13l).1; have b3b := (hv10_13l).2; omega⟩) hS
    · skip
      have f13 := i_ne c13
      have hv10_13l : iv v10 1 1 := iv_nel hv10 (iv_c (x := (0 : Int32)) (k := 0) (by decide)) c13 (by decide)
      have hx2_13p : iv x2 0 7 := by have b0a := (hx2).1; have b0b := (hx2).2; exact ⟨by omega, by omega⟩
      refine lv_iload_n hx hb dX10_areTwo_16 rfl (lv_at hl 1 rfl) ?_
      refine lv_iload_n hx hb dX10_areTwo_17 rfl (lv_at hl 2 rfl) ?_
      refine lv_icmp_eq (tgt := 25) hx hb dX10_areTwo_18 (by decide) (fun c18 => ?_) (fun c18 => ?_)
      · skip
        have f18 := i_eq c18
        refine lv_iconst (v := 0) hx hb dX10_areTwo_25 (by decide) ?_
        exact ret _ _ _ _ _ dX10_areTwo_26 (iv_w (iv_c (x := (0 : Int32)) (k := 0) (by decide)) (by decide)) (⟨rfl, iv_w (iv_c (x := (0 : Int32)) (k := 0) (by decide)) (by decide), by have b0a := (hx1_5p).1; have b0b := (hx1_5p).2; have b1a := (hx2_13p).1; have b1b := (hx2_13p).2; have b2a := (hv2_5l).1; have b2b := (hv2_5l).2; have b3a := (hv10_13l).1; have b3b := (hv10_13l).2; omega⟩) hS
      · skip
        have f18 := i_ne c18
        refine lv_iconst (v := 1) hx hb dX10_areTwo_21 (by decide) ?_
        refine lv_goto (tgt := 26) hx hb dX10_areTwo_22 (by decide) ?_
        have kl1 : (1 : Int32).toInt = 1 := by decide
        exact ret _ _ _ _ _ dX10_areTwo_26 (iv_w (iv_c (x := (1 : Int32)) (k := 1) (by decide)) (by decide)) (⟨rfl, iv_w (iv_c (x := (1 : Int32)) (k := 1) (by decide)) (by decide), by have b0a := (hx1_5p).1; have b0b := (hx1_5p).2; have b1a := (hx2_13p).1; have b1b := (hx2_13p).2; have b2a := (hv2_5l).1; have b2b := (hv2_5l).2; have b3a := (hv10_13l).1; have b3b := (hv10_13l).2; omega⟩) hS
set_option maxHeartbeats 4000000 in
set_option maxRecDepth 100000 in
theorem t_X10_feed (l : Launch) {D : va_G} {c0 : Nat → ClassId} {Y : Nat → Option Nat} {ν : Nat → Nat} {H : Heap} (hT : TI D vwCl (tysOf c0) (RTg ν) Y H) {a0 : Nat} (ha0 : Y a0 = some 10) {x1 : Int32} (hx1 : iv x1 (-2147483648) 2147483647) {x2 : Int32} (hx2 : iv x2 (-2147483648) 2147483647) {x3 : Int32} (hx3 : iv x3 (-2147483648) 2147483647) {x4 : Int32} (hx4 : iv x4 (-2147483648) 2147483647) {x5 : Int32} (hx5 : iv x5 (-2147483648) 2147483647) (hU : uq Y) : Met l yX10_feed (wz yX10_feed cX10_feed 7 (some .int)) { frames := 0, cells := 0, slots := 0, locals := 0 } (TP D vwCl (tysOf c0) H [.ref a0, .int x1, .int x2, .int x3, .int x4, .int x5]) (TQi (fun x H' => TI D vwCl (tysOf c0) (RTg ν) Y H' ∧ iv x (-1) 1600) Y [10, 34, 35]) 0 0 (pW Y [10, 34, 35]) := by
  refine Met.ofW (cc := cX10_feed) (maxL := 7) (ret := (some .int)) (by decide) rfl ?_
  intro p e s m args below meth c s₁ B hml hv
  obtain ⟨rfl, rfl, hK⟩ := hv
  have hx := B.exec
  have hb := B.bytes
  have hr := B.returns
  have hts : ∀ w ∈ wq, w.before _ s = true := fun w h => atoms_spec (ws := wz yX10_feed cX10_feed 7 (some .int)) B.pre w (List.mem_cons_of_mem _ h)
  have hown : s.vm.findClass RX10 = some m.cls := findClass_of_methodNamed B.named
  have hlocks := B.notSynchronized
  obtain ⟨R, hR⟩ : ∃ R : Room, R = ({ frames := 0, cells := 0, slots := 0, locals := 0 } : Room) := ⟨_, rfl⟩
  rw [show (headSpec (wz yX10_feed cX10_feed 7 (some .int)) { frames := 0, cells := 0, slots := 0, locals := 0 }).room = R from hR.symm]
  refine ti_mi hx hb hr hlocks (fun Q ret => ?_)
  have hl := lv_entry [.ref a0, .int x1, .int x2, .int x3, .int x4, .int x5] (n := 7) (Nat.le_of_ble_eq_true rfl)
  rw [lg_entry_eq]
  generalize (lg_sl [.ref a0, .int x1, .int x2, .int x3, .int x4, .int x5] ++ List.replicate (7 - (lg_sl [.ref a0, .int x1, .int x2, .int x3, .int x4, .int x5]).length) Slot.unset).toArray = ls at hl ⊢
  have hl : lv_has ls 7 [(0, .ref a0), (1, .int x1), (2, .int x2), (3, .int x3), (4, .int x4), (5, .int x5)] := hl
  refine ti_gen (P := fun H => TI D vwCl (tysOf c0) (RTg ν) Y H) (Y := Y) (ws := [10, 34, 35]) hT (fun H locs hT hS => ?_)
  refine lv_aload_n hx hb dX10_feed_0 rfl (lv_at hl 0 rfl) ?_
  refine ti_geti hx hb hts inlX10 hown hK hT ha0 rfl rfl rfl 6 (by decide) (hts _ kw_172) (fun _ h9 => h9) rfl dX10_feed_1 (fun v1 hv1 hm1 => ?_)
  refine lv_bipush (v := 20) hx hb dX10_feed_4 (by decide) ?_
  refine lv_iadd hx hb dX10_feed_6 ?_
  refine lv_topi (fun v6 e6 => ?_)
  have hv6 : iv v6 20 1620 := by rw [e6]; exact iv_w (iv_add hv1 (iv_c (x := (20 : Int32)) (k := 20) (by decide)) (by decide)) (by decide)
  have s6 : v6.toInt = v1.toInt + 20 := by rw [e6, iv_addE hv1 (iv_c (x := (20 : Int32)) (k := 20) (by decide)) (by decide)]; rfl
  have kl20 : (20 : Int32).toInt = 20 := by decide
  refine lv_sipush (v := 1600) hx hb dX10_feed_7 (by decide) ?_
  refine lv_icmp_le (tgt := 15) hx hb dX10_feed_10 (by decide) (fun c10 => ?_) (fun c10 => ?_)
  · skip
    have kl1600 : (1600 : Int32).toInt = 1600 := by decide
    have f10 := i_le c10
    have hv6_10l : iv v6 20 1600 := iv_lel hv6 (iv_c (x := (1600 : Int32)) (k := 1600) (by decide)) c10 (by decide)
    have hq10_37 : iv v1 0 1580 := by have b0a := (hv6_10l).1; have b0b := (hv6_10l).2; have b1a := (hv1).1; have b1b := (hv1).2; exact ⟨by omega, by omega⟩
    refine lv_aload_n hx hb dX10_feed_15 rfl (lv_at hl 0 rfl) ?_
    refine ti_getr hx hb hts inlX10 hown hK hT ha0 rfl rfl rfl 7 (by decide) (hts _ kw_135) (fun _ h9 => h9) rfl dX10_feed_16 (fun v16 hv16 hm16 => ?_)
    refine lv_iconst (v := 0) hx hb dX10_feed_19 (by decide) ?_
    refine lv_iload_n hx hb dX10_feed_20 rfl (lv_at hl 1 rfl) ?_
    refine ti_iast hx hb (aT0 hK) hT hS hv16 rfl rfl (iv_c (x := (0 : Int32)) (k := 0) (by decide)) (by decide) (fun _ _ _ => ⟨_, _, rfl, by decide, by decide⟩) hx1 (fun _ _ => trivial) dX10_feed_21 (fun H locs hT hS oq21 he21 hk21 => ?_)
    refine lv_aload_n hx hb dX10_feed_22 rfl (lv_at hl 0 rfl) ?_
    refine ti_getE (ci := 10) (v := .ref v16) hx hb hts inlX10 hown hK (hm16.kept (oq21 _ (ne_r ha0 hv16 rfl))) rfl (by decide) (hts _ kw_135) (fun _ h9 => h9) dX10_feed_23 ?_
    refine lv_iconst (v := 1) hx hb dX10_feed_26 (by decide) ?_
    refine lv_iload_n hx hb dX10_feed_27 rfl (lv_at hl 2 rfl) ?_
    refine ti_iast hx hb (aT0 hK) hT hS hv16 rfl rfl (iv_c (x := (1 : Int32)) (k := 1) (by decide)) (by decide) (fun _ _ _ => ⟨_, _, rfl, by decide, by decide⟩) hx2 (fun _ _ => trivial) dX10_feed_28 (fun H locs hT hS oq28 he28 hk28 => ?_)
    refine lv_aload_n hx hb dX10_feed_29 rfl (lv_at hl 0 rfl) ?_
    refine ti_getE (ci := 10) (v := .ref v16) hx hb hts inlX10 hown hK ((hm16.kept (oq21 _ (ne_r ha0 hv16 rfl))).kept (oq28 _ (ne_r ha0 hv16 rfl))) rfl (by decide) (hts _ kw_135) (fun _ h9 => h9) dX10_feed_30 ?_
    refine lv_iconst (v := 2) hx hb dX10_feed_33 (by decide) ?_
    refine lv_iload_n hx hb dX10_feed_34 rfl (lv_at hl 3 rfl) ?_
    refine ti_iast hx hb (aT0 hK) hT hS hv16 rfl rfl (iv_c (x := (2 : Int32)) (k := 2) (by decide)) (by decide) (fun _ _ _ => ⟨_, _, rfl, by decide, by decide⟩) hx3 (fun _ _ => trivial) dX10_feed_35 (fun H locs hT hS oq35 he35 hk35 => ?_)
    refine lv_aload_n hx hb dX10_feed_36 rfl (lv_at hl 0 rfl) ?_
    refine ti_getE (ci := 10) (v := .ref v16) hx hb hts inlX10 hown hK (((hm16.kept (oq21 _ (ne_r ha0 hv16 rfl))).kept (oq28 _ (ne_r ha0 hv16 rfl))).kept (oq35 _ (ne_r ha0 hv16 rfl))) rfl (by decide) (hts _ kw_135) (fun _ h9 => h9) dX10_feed_37 ?_
    refine lv_iconst (v := 3) hx hb dX10_feed_40 (by decide) ?_
    refine lv_iload hx hb dX10_feed_41 (lv_at hl 4 rfl) ?_
    refine ti_iast hx hb (aT0 hK) hT hS hv16 rfl rfl (iv_c (x := (3 : Int32)) (k := 3) (by decide)) (by decide) (fun _ _ _ => ⟨_, _, rfl, by decide, by decide⟩) hx4 (fun _ _ => trivial) dX10_feed_43 (fun H locs hT hS oq43 he43 hk43 => ?_)
    refine lv_aload_n hx hb dX10_feed_44 rfl (lv_at hl 0 rfl) ?_
    refine ti_getE (ci := 10) (v := .ref v16) hx hb hts inlX10 hown hK ((((hm16.kept (oq21 _ (ne_r ha0 hv16 rfl))).kept (oq28 _ (ne_r ha0 hv16 rfl))).kept (oq35 _ (ne_r ha0 hv16 rfl))).kept (oq43 _ (ne_r ha0 hv16 rfl))) rfl (by decide) (hts _ kw_135) (fun _ h9 => h9) dX10_feed_45 ?_
    refine lv_iconst (v := 4) hx hb dX10_feed_48 (by decide) ?_
    refine lv_iload hx hb dX10_feed_49 (lv_at hl 5 rfl) ?_
    refine ti_iast hx hb (aT0 hK) hT hS hv16 rfl rfl (iv_c (x := (4 : Int32)) (k := 4) (by decide)) (by decide) (fun _ _ _ => ⟨_, _, rfl, by decide, by decide⟩) hx5 (fun _ _ => trivial) dX10_feed_51 (fun H locs hT hS oq51 he51 hk51 => ?_)
    refine lv_iconst (v := 0) hx hb dX10_feed_52 (by decide) ?_
    have J55 : ∀ (n : Nat) (j55_L6 : Int32) (H : Heap) (locs : List Loc) (ls : Array Slot), (20 - j55_L6.toInt).toNat < n → iv j55_L6 0 20 → fi D vwCl a0 10 6 (.int v1) H → TI D vwCl (tysOf c0) (RTg ν) Y H → va_S (pW Y [10, 34, 35]) s.heap H locs → lv_has ls 7 [(0, .ref a0), (1, .int x1), (2, .int x2), (3, .int x3), (4, .int x4), (5, .int x5), (6, .int j55_L6)] → W p l e R s m ([.ref a0, .int x1, .int x2, .int x3, .int x4, .int x5] : List Value).toArray below meth c H locs 0 0 Q (F0 m 55 ls []) := by
      intro n
      induction n with
      | zero => intro j55_L6 H locs ls hms; exact absurd hms (Nat.not_lt_zero _)
      | succ n ih55 =>
        intro j55_L6 H locs ls hms55 hj55_L6 hM55_a0_6 hT hS hl
        refine lv_iload hx hb dX10_feed_55 (lv_at hl 6 rfl) ?_
        refine lv_bipush (v := 20) hx hb dX10_feed_57 (by decide) ?_
        refine lv_icmp_ge (tgt := 101) hx hb dX10_feed_59 (by decide) (fun c59 => ?_) (fun c59 => ?_)
        · skip
          have f59 := i_le c59
          have hj55_L6_59r : iv j55_L6 20 20 := iv_ler (iv_c (x := (20 : Int32)) (k := 20) (by decide)) hj55_L6 c59 (by decide)
          refine lv_aload_n hx hb dX10_feed_101 rfl (lv_at hl 0 rfl) ?_
          refine lv_dup hx hb dX10_feed_102 rfl ?_
          refine ti_getE (ci := 10) (v := .int v1) hx hb hts inlX10 hown hK hM55_a0_6 rfl (by decide) (hts _ kw_172) (fun _ h9 => h9) dX10_feed_103 ?_
          refine lv_bipush (v := 20) hx hb dX10_feed_106 (by decide) ?_
          refine lv_iadd hx hb dX10_feed_108 ?_
          refine lv_topi (fun v108 e108 => ?_)
          have hv108 : iv v108 20 1600 := by rw [e108]; exact iv_w (iv_add hq10_37 (iv_c (x := (20 : Int32)) (k := 20) (by decide)) (by decide)) (by decide)
          have s108 : v108.toInt = v1.toInt + 20 := by rw [e108, iv_addE hq10_37 (iv_c (x := (20 : Int32)) (k := 20) (by decide)) (by decide)]; rfl
          refine ti_put (ty := .int) hx hb hts inlX10 tyX10 tyX10_ok nmX10 hown hK hT hS ha0 rfl rfl rfl rfl 6 (by decide) (hts _ kw_172) (fun _ h9 => h9) rfl rfl (by decide +kernel) rfl rfl ⟨v108, rfl, iv_w hv108 (by decide)⟩ (fun _ _ => trivial) dX10_feed_109 (fun H locs hT hS oq109 he109 hk109 => ?_)
          refine lv_aload_n hx hb dX10_feed_112 rfl (lv_at hl 0 rfl) ?_
          refine ti_getE (ci := 10) (v := .int v108) hx hb hts inlX10 hown hK he109 rfl (by decide) (hts _ kw_172) (fun _ h9 => h9) dX10_feed_113 ?_
          exact ret _ _ _ _ _ dX10_feed_116 (⟨hT, iv_w hv108 (by decide)⟩) hS
        · skip
          have f59 := i_nle c59
          have hj55_L6_59l : iv j55_L6 0 19 := iv_ltl hj55_L6 (iv_c (x := (20 : Int32)) (k := 20) (by decide)) (Int32.not_le.mp c59) (by decide)
          refine lv_aload_n hx hb dX10_feed_62 rfl (lv_at hl 0 rfl) ?_
          refine ti_getr hx hb hts inlX10 hown hK hT ha0 rfl rfl rfl 5 (by decide) (hts _ kw_134) (fun _ h9 => h9) rfl dX10_feed_63 (fun v63 hv63 hm63 => ?_)
          refine lv_aload_n hx hb dX10_feed_66 rfl (lv_at hl 0 rfl) ?_
          refine ti_getE (ci := 10) (v := .int v1) hx hb hts inlX10 hown hK hM55_a0_6 rfl (by decide) (hts _ kw_172) (fun _ h9 => h9) dX10_feed_67 ?_
          refine lv_iload hx hb dX10_feed_70 (lv_at hl 6 rfl) ?_
          refine lv_iadd hx hb dX10_feed_72 ?_
          refine lv_topi (fun v72 e72 => ?_)
          have hv72 : iv v72 0 1599 := by rw [e72]; exact iv_w (iv_add hq10_37 hj55_L6_59l (by decide)) (by decide)
          have s72 : v72.toInt = v1.toInt + j55_L6.toInt := by rw [e72]; exact iv_addE hq10_37 hj55_L6_59l (by decide)
          refine lv_aload_n hx hb dX10_feed_73 rfl (lv_at hl 0 rfl) ?_
          refine ti_getr hx hb hts inlX10 hown hK hT ha0 rfl rfl rfl 7 (by decide) (hts _ kw_135) (fun _ h9 => h9) rfl dX10_feed_74 (fun v74 hv74 hm74 => ?_)
          refine lv_iload hx hb dX10_feed_77 (lv_at hl 6 rfl) ?_
          refine lv_iconst (v := 4) hx hb dX10_feed_79 (by decide) ?_
          refine lv_idiv hx hb dX10_feed_80 (iv_ne0 (iv_c (x := (4 : Int32)) (k := 4) (by decide)) (by decide)) ?_
          refine lv_topi (fun v80 e80 => ?_)
          have hv80 : iv v80 0 4 := by rw [e80]; exact iv_w (iv_divk hj55_L6_59l (iv_c (x := (4 : Int32)) (k := 4) (by decide)) (by decide)) (by decide)
          refine ti_iald (lo := (-2147483648)) (hi := 2147483647) hx hb (aT0 hK) hT hv74 rfl hv80 (by decide) (fun _ _ _ => ⟨_, _, rfl, by decide, by decide⟩) dX10_feed_81 (fun v81 hv81 hm81 => ?_)
          refine lv_bipush (v := 24) hx hb dX10_feed_82 (by decide) ?_
          refine lv_bipush (v := 8) hx hb dX10_feed_84 (by decide) ?_
          refine lv_iload hx hb dX10_feed_86 (lv_at hl 6 rfl) ?_
          refine lv_iconst (v := 4) hx hb dX10_feed_88 (by decide) ?_
          refine lv_irem hx hb dX10_feed_89 (iv_ne0 (iv_c (x := (4 : Int32)) (k := 4) (by decide)) (by decide)) ?_
          refine lv_topi (fun v89 e89 => ?_)
          have hv89 : iv v89 0 3 := by rw [e89]; exact iv_rem hj55_L6_59l (iv_c (x := (4 : Int32)) (k := 4) (by decide)) (by decide)
          refine lv_imul hx hb dX10_feed_90 ?_
          refine lv_topi (fun v90 e90 => ?_)
          have hv90 : iv v90 0 24 := by rw [e90]; exact iv_mul (iv_c (x := (8 : Int32)) (k := 8) (by decide)) hv89 (by decide)
          have kl8 : (8 : Int32).toInt = 8 := by decide
          have s90 : v90.toInt = (8 : Int32).toInt * v89.toInt := by rw [e90]; exact iv_mulE (iv_c (x := (8 : Int32)) (k := 8) (by decide)) hv89 (by decide)
          have s90 : v90.toInt = 8 * v89.toInt := by rw [s90]; simp only [show (8 : Int32).toInt = 8 from by decide]; try omega
          refine lv_isub hx hb dX10_feed_91 ?_
          refine lv_topi (fun v91 e91 => ?_)
          have hv91 : iv v91 0 24 := by rw [e91]; exact iv_w (iv_sub (iv_c (x := (24 : Int32)) (k := 24) (by decide)) hv90 (by decide)) (by decide)
          have s91 : v91.toInt = (24 : Int32).toInt - v90.toInt := by rw [e91]; exact iv_subE (iv_c (x := (24 : Int32)) (k := 24) (by decide)) hv90 (by decide)
          have kl24 : (24 : Int32).toInt = 24 := by decide
          refine lv_ishr hx hb dX10_feed_92 ?_
          refine lv_topi (fun v92 e92 => ?_)
          have hv92 : iv v92 (-2147483648) 2147483647 := iv_top _
          refine lv_i2b hx hb dX10_feed_93 rfl ?_
          refine lv_topi (fun v93 e93 => ?_)
          have hv93 : iv v93 (-128) 127 := by rw [e93]; exact iv_byte _
          refine ti_bast hx hb (aT1 hK) hT hS hv63 rfl rfl hv72 (by decide) (fun _ _ _ => rfl)  (fun _ _ => trivial) dX10_feed_94 (fun H locs hT hS oq94 he94 hk94 => ?_)
          obtain ⟨v95, e95⟩ : ∃ y : Int32, y = j55_L6 + 1 := ⟨_, rfl⟩
          have hv95 : iv v95 1 20 := by rw [e95]; exact iv_w (iv_add hj55_L6_59l (iv_c (x := (1 : Int32)) (k := 1) (by decide)) (by decide)) (by decide)
          have s95 : v95.toInt = j55_L6.toInt + 1 := by rw [e95, iv_addE hj55_L6_59l (iv_c (x := (1 : Int32)) (k := 1) (by decide)) (by decide)]; rfl
          refine lv_iinc (v := v95) (lv' := [(6, .int v95), (0, .ref a0), (1, .int x1), (2, .int x2), (3, .int x3), (4, .int x4), (5, .int x5)]) hx hb dX10_feed_95 hl (k := 6) rfl (by rw [e95]; rfl) (by decide) rfl (fun ls hl => ?_)
          refine lv_goto (tgt := 55) hx hb dX10_feed_98 (by decide) ?_
          exact ih55 v95 _ _ _ (ms_up hms55 (by have := s95; omega) (iv_w (c := 1) (d := 20) hv95 (by decide)).2) (iv_w hv95 (by decide)) (hM55_a0_6.kept (oq94 _ (ne_r ha0 hv63 rfl))) hT hS (lv_sub hl [1, 2, 3, 4, 5, 6, 0] rfl)
    refine lv_istore (lv' := [(6, .int (0 : Int32)), (0, .ref a0), (1, .int x1), (2, .int x2), (3, .int x3), (4, .int x4), (5, .int x5)]) hx hb dX10_feed_53 hl (by decide) rfl (fun ls hl => ?_)
    exact J55 _ (0 : Int32) _ _ _ (Nat.lt_succ_self _) (iv_w (iv_c (x := (0 : Int32)) (k := 0) (by decide)) (by decide)) (((((hm1.kept (oq21 _ (ne_r ha0 hv16 rfl))).kept (oq28 _ (ne_r ha0 hv16 rfl))).kept (oq35 _ (ne_r ha0 hv16 rfl))).kept (oq43 _ (ne_r ha0 hv16 rfl))).kept (oq51 _ (ne_r ha0 hv16 rfl))) hT hS (lv_sub hl [1, 2, 3, 4, 5, 6, 0] rfl)
  · skip
    have kl1600 : (1600 : Int32).toInt = 1600 := by decide
    have f10 := i_nle c10
    have hv6_10r : iv v6 1601 1620 := iv_ltr (iv_c (x := (1600 : Int32)) (k := 1600) (by decide)) hv6 (Int32.not_le.mp c10) (by decide)
    have hq10_38 : iv v1 1581 1600 := by have b0a := (hv6_10r).1; have b0b := (hv6_10r).2; have b1a := (hv1).1; have b1b := (hv1).2; exact ⟨by omega, by omega⟩
    refine lv_iconst (v := (-1)) hx hb dX10_feed_13 (by decide) ?_
    exact ret _ _ _ _ _ dX10_feed_14 (⟨hT, iv_w (iv_c (x := (-1 : Int32)) (k := (-1)) (by decide)) (by decide)⟩) hS
set_option maxHeartbeats 4000000 in
set_option maxRecDepth 100000 in
theorem t_X10_end (l : Launch) {D : va_G} {c0 : Nat → ClassId} {Y : Nat → Option Nat} {ν : Nat → Nat} {H : Heap} (hT : TI D vwCl (tysOf c0) (RTg ν) Y H) {a0 : Nat} (ha0 : Y a0 = some 10) {x1 : Int32} (hx1 : iv x1 (-2147483648) 2147483647) (hU : uq Y) : Met l yX10_end (wz yX10_end cX10_end 2 (some .int)) { frames := 1, cells := 0, slots := 0, locals := 25 } (TP D vwCl (tysOf c0) H [.ref a0, .int x1]) (TQi (fun x H' => TI D vwCl (tysOf c0) (RTg ν) Y H' ∧ iv x (-1) 1600) Y [10]) 0 0 (pW Y [10]) := by
  refine Met.ofW (cc := cX10_end) (maxL := 2) (ret := (some .int)) (by decide) rfl ?_
  intro p e s m args below meth c s₁ B hml hv
  obtain ⟨rfl, rfl, hK⟩ := hv
  have hx := B.exec
  have hb := B.bytes
  have hr := B.returns
  have hts : ∀ w ∈ wq, w.before _ s = true := fun w h => atoms_spec (ws := wz yX10_end cX10_end 2 (some .int)) B.pre w (List.mem_cons_of_mem _ h)
  have hown : s.vm.findClass RX10 = some m.cls := findClass_of_methodNamed B.named
  have hlocks := B.notSynchronized
  obtain ⟨R, hR⟩ : ∃ R : Room, R = ({ frames := 1, cells := 0, slots := 0, locals := 25 } : Room) := ⟨_, rfl⟩
  rw [show (headSpec (wz yX10_end cX10_end 2 (some .int)) { frames := 1, cells := 0, slots := 0, locals := 25 }).room = R from hR.symm]
  refine ti_mi hx hb hr hlocks (fun Q ret => ?_)
  have hl := lv_entry [.ref a0, .int x1] (n := 2) (Nat.le_of_ble_eq_true rfl)
  rw [lg_entry_eq]
  generalize (lg_sl [.ref a0, .int x1] ++ List.replicate (2 - (lg_sl [.ref a0, .int x1]).length) Slot.unset).toArray = ls at hl ⊢
  have hl : lv_has ls 2 [(0, .ref a0), (1, .int x1)] := hl
  refine ti_gen (P := fun H => TI D vwCl (tysOf c0) (RTg ν) Y H) (Y := Y) (ws := [10]) hT (fun H locs hT hS => ?_)
  refine lv_iload_n hx hb dX10_end_0 rfl (lv_at hl 1 rfl) ?_
  refine lv_i2l hx hb dX10_end_1 rfl ?_
  refine lv_topl (fun v1 e1 => ?_)
  have hv1 : jv v1 (-2147483648) 2147483647 := by rw [e1]; exact jv_i hx1
  have t1 : v1.toInt = x1.toInt := by rw [e1]; exact jv_e _
  refine lv_lconst (v := 0) hx hb dX10_end_2 (by decide) ?_
  have kj0 : (0 : Int64).toInt = 0 := by decide
  refine lv_aload_n hx hb dX10_end_3 rfl (lv_at hl 0 rfl) ?_
  refine ti_geti hx hb hts inlX10 hown hK hT ha0 rfl rfl rfl 6 (by decide) (hts _ kw_172) (fun _ h9 => h9) rfl dX10_end_4 (fun v4 hv4 hm4 => ?_)
  refine lv_i2l hx hb dX10_end_7 rfl ?_
  refine lv_topl (fun v7 e7 => ?_)
  have hv7 : jv v7 0 1600 := by rw [e7]; exact jv_i hv4
  have t7 : v7.toInt = v4.toInt := by rw [e7]; exact jv_e _
  refine ti_calli (va_runS (As := [.long v1, .long (0 : Int64), .long v7]) (rest := []) ⟨hx, hb, hml, hown, hts⟩ (t_X10_in l hT (jv_w hv1 (by decide)) (jv_w (jv_c (x := (0 : Int64)) (k := 0) (by decide)) (by decide)) (jv_w hv7 (by decide))) (cwS 3 hts (good_S kw_181 kw_182 kw_5 kw_183) rfl rfl rfl (by decide +kernel) ⟨by rw [hR]; decide, by rw [hR]; decide⟩) (ti_preS hK) rfl rfl hl.1 rfl (lv_room (Nat.le_of_ble_eq_true rfl)) dX10_end_8 ⟨Nat.zero_le _, Nat.zero_le _⟩) hS (pW_sub rfl) (fun v8 H1 locs hB hS _ hk8 => ?_)
  obtain ⟨hH, hv8, hp8⟩ := hB
  rw [hH] at hS ⊢
  refine lv_if_ne (tgt := 16) hx hb dX10_end_11 (by decide) (fun c11 => ?_) (fun c11 => ?_)
  · skip
    have kl0 : (0 : Int32).toInt = 0 := by decide
    have f11 := i_ne c11
    have hv8_11l : iv v8 1 1 := iv_nel hv8 (iv_c (x := (0 : Int32)) (k := 0) (by decide)) c11 (by decide)
    have hv1_11p : jv v1 0 1600 := by have b0a := (hv1).1; have b0b := (hv1).2; have b1a := ((jv_c (x := (0 : Int64)) (k := 0) (by decide))).1; have b1b := ((jv_c (x := (0 : Int64)) (k := 0) (by decide))).2; have b2a := (hv7).1; have b2b := (hv7).2; exact ⟨by omega, by omega⟩
    have hx1_11p : iv x1 0 1600 := by have := t1; have b0a := (hv1_11p).1; have b0b := (hv1_11p).2; have b1a := (hx1).1; have b1b := (hx1).2; exact ⟨by omega, by omega⟩
    refine lv_aload_n hx hb dX10_end_16 rfl (lv_at hl 0 rfl) ?_
    refine lv_iload_n hx hb dX10_end_17 rfl (lv_at hl 1 rfl) ?_
    refine ti_put (ty := .int) hx hb hts inlX10 tyX10 tyX10_ok nmX10 hown hK hT hS ha0 rfl rfl rfl rfl 6 (by decide) (hts _ kw_172) (fun _ h9 => h9) rfl rfl (by decide +kernel) rfl rfl ⟨x1, rfl, iv_w hx1_11p (by decide)⟩ (fun _ _ => trivial) dX10_end_18 (fun H locs hT hS oq18 he18 hk18 => ?_)
    refine lv_iload_n hx hb dX10_end_21 rfl (lv_at hl 1 rfl) ?_
    exact ret _ _ _ _ _ dX10_end_22 (⟨hT, iv_w hx1_11p (by decide)⟩) hS
  · skip
    have kl0 : (0 : Int32).toInt = 0 := by decide
    have f11 := i_eq c11
    have hv8_11l : iv v8 0 0 := iv_eql hv8 (iv_c (x := (0 : Int32)) (k := 0) (by decide)) c11 (by decide)
    refine lv_iconst (v := (-1)) hx hb dX10_end_14 (by decide) ?_
    exact ret _ _ _ _ _ dX10_end_15 (⟨hT, iv_w (iv_c (x := (-1 : Int32)) (k := (-1)) (by decide)) (by decide)⟩) hS
set_option maxHeartbeats 4000000 in
set_option maxRecDepth 100000 in
theorem t_X10_see (l : Launch) {D : va_G} {c0 : Nat → ClassId} {Y : Nat → Option Nat} {ν : Nat → Nat} {H : Heap} (hT : TI D vwCl (tysOf c0) (RTg ν) Y H) {a0 : Nat} (ha0 : Y a0 = some 10) {x1 : Int32} (hx1 : iv x1 0 1600) (hU : uq Y) : Met l yX10_see (wz yX10_see cX10_see 2 (some .int)) { frames := 0, cells := 0, slots := 0, locals := 0 } (TP D vwCl (tysOf c0) H [.ref a0, .int x1]) (TQi (fun x H' => H' = H ∧ iv x (-1) 255 ∧ ((0 ≤ x.toInt → x1.toInt ≤ 1599))) Y []) 0 0 (pW Y []) := by
  refine Met.ofW (cc := cX10_see) (maxL := 2) (ret := (some .int)) (by decide) rfl ?_
  intro p e s m args below meth c s₁ B hml hv
  obtain ⟨rfl, rfl, hK⟩ := hv
  have hx := B.exec
  have hb := B.bytes
  have hr := B.returns
  have hts : ∀ w ∈ wq, w.before _ s = true := fun w h => atoms_spec (ws := wz yX10_see cX10_see 2 (some .int)) B.pre w (List.mem_cons_of_mem _ h)
  have hown : s.vm.findClass RX10 = some m.cls := findClass_of_methodNamed B.named
  have hlocks := B.notSynchronized
  obtain ⟨R, hR⟩ : ∃ R : Room, R = ({ frames := 0, cells := 0, slots := 0, locals := 0 } : Room) := ⟨_, rfl⟩
  rw [show (headSpec (wz yX10_see cX10_see 2 (some .int)) { frames := 0, cells := 0, slots := 0, locals := 0 }).room = R from hR.symm]
  refine ti_mi hx hb hr hlocks (fun Q ret => ?_)
  have hl := lv_entry [.ref a0, .int x1] (n := 2) (Nat.le_of_ble_eq_true rfl)
  rw [lg_entry_eq]
  generalize (lg_sl [.ref a0, .int x1] ++ List.replicate (2 - (lg_sl [.ref a0, .int x1]).length) Slot.unset).toArray = ls at hl ⊢
  have hl : lv_has ls 2 [(0, .ref a0), (1, .int x1)] := hl
  have hS : va_S (pW Y []) s.heap s.heap [] := va_S.rf
  refine lv_iload_n hx hb dX10_see_0 rfl (lv_at hl 1 rfl) ?_
  refine lv_aload_n hx hb dX10_see_1 rfl (lv_at hl 0 rfl) ?_
  refine ti_geti hx hb hts inlX10 hown hK hT ha0 rfl rfl rfl 8 (by decide) (hts _ kw_378) (fun _ h9 => h9) rfl dX10_see_2 (fun v2 hv2 hm2 => ?_)
  refine lv_icmp_ge (tgt := 21) hx hb dX10_see_5 (by decide) (fun c5 => ?_) (fun c5 => ?_)
  · skip
    have f5 := i_le c5
    refine lv_iconst (v := (-1)) hx hb dX10_see_21 (by decide) ?_
    have klm1 : (-1 : Int32).toInt = (-1) := by decide
    exact ret _ _ _ _ _ dX10_see_22 (⟨rfl, iv_w (iv_c (x := (-1 : Int32)) (k := (-1)) (by decide)) (by decide), by have b0a := (hx1).1; have b0b := (hx1).2; have b1a := (hv2).1; have b1b := (hv2).2; omega⟩) hS
  · skip
    have f5 := i_nle c5
    have hx1_5l : iv x1 0 1599 := iv_ltl hx1 hv2 (Int32.not_le.mp c5) (by decide)
    have hv2_5r : iv v2 1 1600 := iv_ltr hx1_5l hv2 (Int32.not_le.mp c5) (by decide)
    refine lv_aload_n hx hb dX10_see_8 rfl (lv_at hl 0 rfl) ?_
    refine ti_getr hx hb hts inlX10 hown hK hT ha0 rfl rfl rfl 5 (by decide) (hts _ kw_134) (fun _ h9 => h9) rfl dX10_see_9 (fun v9 hv9 hm9 => ?_)
    refine lv_iload_n hx hb dX10_see_12 rfl (lv_at hl 1 rfl) ?_
    refine ti_bald (lo := (-128)) (hi := 127) hx hb (aT1 hK) hT hv9 rfl hx1_5l (by decide) (fun _ _ _ => ⟨_, _, rfl, by decide, by decide⟩) dX10_see_13 (fun v13 hv13 hm13 => ?_)
    refine lv_sipush (v := 255) hx hb dX10_see_14 (by decide) ?_
    refine lv_iand hx hb dX10_see_17 ?_
    refine lv_topi (fun v17 e17 => ?_)
    have hv17 : iv v17 0 255 := by rw [e17]; exact iv_and (iv_w (iv_c (x := (255 : Int32)) (k := 255) (by decide)) (by decide))
    refine lv_goto (tgt := 22) hx hb dX10_see_18 (by decide) ?_
    exact ret _ _ _ _ _ dX10_see_22 (⟨rfl, iv_w hv17 (by decide), by have b0a := (hx1_5l).1; have b0b := (hx1_5l).2; have b1a := (hv17).1; have b1b := (hv17).2; have b2a := (hv2_5r).1; have b2b := (hv2_5r).2; have b3a := (hv13).1; have b3b := (hv13).2; omega⟩) hS
set_option maxHeartbeats 4000000 in
set_option maxRecDepth 100000 in
theorem t_X10_advance (l : Launch) {D : va_G} {c0 : Nat → ClassId} {Y : Nat → Option Nat} {ν : Nat → Nat} {H : Heap} (hT : TI D vwCl (tysOf c0) (RTg ν) Y H) {a0 : Nat} (ha0 : Y a0 = some 10) {m0 : Int32} (hm0 : fi D vwCl a0 10 13 (.int m0) H) (hmi0 : iv m0 0 3) {m1 : Int32} (hm1 : fi D vwCl a0 10 9 (.int m1) H) (hmi1 : iv m1 0 1600) (hU : uq Y) : Met l yX10_advance (wz yX10_advance cX10_advance 2 none) { frames := 1, cells := 0, slots := 0, locals := 60 } (TP D vwCl (tysOf c0) H [.ref a0]) (TQv (fun H' => TI D vwCl (tysOf c0) (RTg ν) Y H' ∧ (∃ w0 : Int32, fi D vwCl a0 10 13 (.int w0) H' ∧ iv w0 0 3 ∧ (w0.toInt = m0.toInt) ∧ ∃ w1 : Int32, fi D vwCl a0 10 9 (.int w1) H' ∧ iv w1 0 1600 ∧ (m1.toInt ≤ w1.toInt) ∧ ∃ w2 : Int32, fi D vwCl a0 10 11 (.int w2) H' ∧ iv w2 0 4 ∧ (¬ w2.toInt = 3 ∨ m1.toInt < w1.toInt))) Y [10]) 0 0 (pW Y [10]) := by
  refine Met.ofW (cc := cX10_advance) (maxL := 2) (ret := none) (by decide) rfl ?_
  intro p e s m args below meth c s₁ B hml hv
  obtain ⟨rfl, rfl, hK⟩ := hv
  have hx := B.exec
  have hb := B.bytes
  have hr := B.returns
  have hts : ∀ w ∈ wq, w.before _ s = true := fun w h => atoms_spec (ws := wz yX10_advance cX10_advance 2 none) B.pre w (List.mem_cons_of_mem _ h)
  have hown : s.vm.findClass RX10 = some m.cls := findClass_of_methodNamed B.named
  have hlocks := B.notSynchronized
  obtain ⟨R, hR⟩ : ∃ R : Room, R = ({ frames := 1, cells := 0, slots := 0, locals := 60 } : Room) := ⟨_, rfl⟩
  rw [show (headSpec (wz yX10_advance cX10_advance 2 none) { frames := 1, cells := 0, slots := 0, locals := 60 }).room = R from hR.symm]
  refine ti_mv hx hb hr hlocks (fun Q ret => ?_)
  have hl := lv_entry [.ref a0] (n := 2) (Nat.le_of_ble_eq_true rfl)
  rw [lg_entry_eq]
  generalize (lg_sl [.ref a0] ++ List.replicate (2 - (lg_sl [.ref a0]).length) Slot.unset).toArray = ls at hl ⊢
  have hl : lv_has ls 2 [(0, .ref a0)] := hl
  refine ti_gen (P := fun H => TI D vwCl (tysOf c0) (RTg ν) Y H ∧ fi D vwCl a0 10 13 (.int m0) H ∧ fi D vwCl a0 10 9 (.int m1) H) (Y := Y) (ws := [10]) ⟨hT, hm0, hm1⟩ (fun H locs hT hS => ?_)
  clear hm0 hm1
  obtain ⟨hT, hm0, hm1⟩ := hT
  have J0 : ∀ (n : Nat) (j0_Ma0_9 : Int32) (H : Heap) (locs : List Loc) (ls : Array Slot), (1600 - j0_Ma0_9.toInt).toNat < n → iv j0_Ma0_9 0 1600 → fi D vwCl a0 10 9 (.int j0_Ma0_9) H → fi D vwCl a0 10 13 (.int m0) H → (m1.toInt ≤ j0_Ma0_9.toInt) → TI D vwCl (tysOf c0) (RTg ν) Y H → va_S (pW Y [10]) s.heap H locs → lv_has ls 2 [(0, .ref a0)] → W p l e R s m ([.ref a0] : List Value).toArray below meth c H locs 0 0 Q (F0 m 0 ls []) := by
    intro n
    induction n with
    | zero => intro j0_Ma0_9 H locs ls hms; exact absurd hms (Nat.not_lt_zero _)
    | succ n ih0 =>
      intro j0_Ma0_9 H locs ls hms0 hj0_Ma0_9 hM0_a0_9 hM0_a0_13 hT0_0 hT hS hl
      refine lv_aload_n hx hb dX10_advance_0 rfl (lv_at hl 0 rfl) ?_
      refine lv_aload_n hx hb dX10_advance_1 rfl (lv_at hl 0 rfl) ?_
      refine ti_getE (ci := 10) (v := .int j0_Ma0_9) hx hb hts inlX10 hown hK hM0_a0_9 rfl (by decide) (hts _ kw_379) (fun _ h9 => h9) dX10_advance_2 ?_
      refine ti_calli (va_runV (As := [.int j0_Ma0_9]) (rest := []) ⟨hx, hb, hml, hown, hts⟩ (t_X10_see l hT ha0 (iv_w hj0_Ma0_9 (by decide)) hU) (cwV 1 hts (good_V kw_395 kw_396 kw_397 kw_5 kw_398) rfl rfl rfl (by decide +kernel) ⟨by rw [hR]; decide, by rw [hR]; decide⟩) (ti_preV hK hT ha0 rfl rfl) rfl rfl hl.1 rfl (lv_room (Nat.le_of_ble_eq_true rfl)) dX10_advance_5 ⟨Nat.zero_le _, Nat.zero_le _⟩) hS (pW_sub rfl) (fun v5 H1 locs hB hS _ hk5 => ?_)
      obtain ⟨hH, hv5, hp5⟩ := hB
      rw [hH] at hS ⊢
      refine lv_bipush (v := 32) hx hb dX10_advance_8 (by decide) ?_
      have J26 : ∀  (H : Heap) (locs : List Loc) (ls : Array Slot), fi D vwCl a0 10 9 (.int j0_Ma0_9) H → fi D vwCl a0 10 13 (.int m0) H → (j0_Ma0_9.toInt ≤ 1599) → (m1.toInt ≤ j0_Ma0_9.toInt) → TI D vwCl (tysOf c0) (RTg ν) Y H → va_S (pW Y [10]) s.heap H locs → lv_has ls 2 [(0, .ref a0)] → W p l e R s m ([.ref a0] : List Value).toArray below meth c H locs 0 0 Q (F0 m 26 ls []) := by
        intro  H locs ls hM26_a0_9 hM26_a0_13 hT26_0 hT26_1 hT hS hl
        have hh26_50 : iv j0_Ma0_9 0 1599 := by have b0a := (hmi0).1; have b0b := (hmi0).2; have b1a := (hmi1).1; have b1b := (hmi1).2; have b2a := (hj0_Ma0_9).1; have b2b := (hj0_Ma0_9).2; have b3a := (hv5).1; have b3b := (hv5).2; exact ⟨by omega, by omega⟩
        refine lv_aload_n hx hb dX10_advance_26 rfl (lv_at hl 0 rfl) ?_
        refine lv_dup hx hb dX10_advance_27 rfl ?_
        refine ti_getE (ci := 10) (v := .int j0_Ma0_9) hx hb hts inlX10 hown hK hM26_a0_9 rfl (by decide) (hts _ kw_379) (fun _ h9 => h9) dX10_advance_28 ?_
        refine lv_iconst (v := 1) hx hb dX10_advance_31 (by decide) ?_
        refine lv_iadd hx hb dX10_advance_32 ?_
        refine lv_topi (fun v32 e32 => ?_)
        have hv32 : iv v32 1 1600 := by rw [e32]; exact iv_w (iv_add hh26_50 (iv_c (x := (1 : Int32)) (k := 1) (by decide)) (by decide)) (by decide)
        have s32 : v32.toInt = j0_Ma0_9.toInt + 1 := by rw [e32, iv_addE hh26_50 (iv_c (x := (1 : Int32)) (k := 1) (by decide)) (by decide)]; rfl
        have kl1 : (1 : Int32).toInt = 1 := by decide
        refine ti_put (ty := .int) hx hb hts inlX10 tyX10 tyX10_ok nmX10 hown hK hT hS ha0 rfl rfl rfl rfl 9 (by decide) (hts _ kw_379) (fun _ h9 => h9) rfl rfl (by decide +kernel) rfl rfl ⟨v32, rfl, iv_w hv32 (by decide)⟩ (fun _ _ => trivial) dX10_advance_33 (fun H locs hT hS oq33 he33 hk33 => ?_)
        refine lv_goto (tgt := 0) hx hb dX10_advance_36 (by decide) ?_
        exact ih0 v32 _ _ _ (ms_up hms0 (by have := s32; omega) (iv_w (c := 1) (d := 1600) hv32 (by decide)).2) (iv_w hv32 (by decide)) he33 (hk33 _ _ (by decide) hM26_a0_13) (by have b0a := (hmi0).1; have b0b := (hmi0).2; have b1a := (hmi1).1; have b1b := (hmi1).2; have b2a := (hh26_50).1; have b2b := (hh26_50).2; have b3a := (hv5).1; have b3b := (hv5).2; have b4a := (hv32).1; have b4b := (hv32).2; omega) hT hS (lv_sub hl [0] rfl)
      refine lv_icmp_eq (tgt := 26) hx hb dX10_advance_10 (by decide) (fun c10 => ?_) (fun c10 => ?_)
      · skip
        have kl32 : (32 : Int32).toInt = 32 := by decide
        have f10 := i_eq c10
        have hv5_10l : iv v5 32 32 := iv_eql hv5 (iv_c (x := (32 : Int32)) (k := 32) (by decide)) c10 (by decide)
        have hq10_51 : iv j0_Ma0_9 0 1599 := by have := hp5; have b0a := (hv5_10l).1; have b0b := (hv5_10l).2; have b1a := (hj0_Ma0_9).1; have b1b := (hj0_Ma0_9).2; exact ⟨by omega, by omega⟩
        exact J26  _ _ _  hM0_a0_9 hM0_a0_13 (by have b0a := (hmi0).1; have b0b := (hmi0).2; have b1a := (hmi1).1; have b1b := (hmi1).2; have b2a := (hq10_51).1; have b2b := (hq10_51).2; have b3a := (hv5_10l).1; have b3b := (hv5_10l).2; omega) (by have b0a := (hmi0).1; have b0b := (hmi0).2; have b1a := (hmi1).1; have b1b := (hmi1).2; have b2a := (hq10_51).1; have b2b := (hq10_51).2; have b3a := (hv5_10l).1; have b3b := (hv5_10l).2; omega) hT hS (lv_sub hl [0] rfl)
      · skip
        have kl32 : (32 : Int32).toInt = 32 := by decide
        have f10 := i_ne c10
        refine lv_aload_n hx hb dX10_advance_13 rfl (lv_at hl 0 rfl) ?_
        refine lv_aload_n hx hb dX10_advance_14 rfl (lv_at hl 0 rfl) ?_
        refine ti_getE (ci := 10) (v := .int j0_Ma0_9) hx hb hts inlX10 hown hK hM0_a0_9 rfl (by decide) (hts _ kw_379) (fun _ h9 => h9) dX10_advance_15 ?_
        refine ti_calli (va_runV (As := [.int j0_Ma0_9]) (rest := []) ⟨hx, hb, hml, hown, hts⟩ (t_X10_see l hT ha0 (iv_w hj0_Ma0_9 (by decide)) hU) (cwV 1 hts (good_V kw_395 kw_396 kw_397 kw_5 kw_398) rfl rfl rfl (by decide +kernel) ⟨by rw [hR]; decide, by rw [hR]; decide⟩) (ti_preV hK hT ha0 rfl rfl) rfl rfl hl.1 rfl (lv_room (Nat.le_of_ble_eq_true rfl)) dX10_advance_18 ⟨Nat.zero_le _, Nat.zero_le _⟩) hS (pW_sub rfl) (fun v18 H1 locs hB hS _ hk18 => ?_)
        obtain ⟨hH, hv18, hp18⟩ := hB
        rw [hH] at hS ⊢
        refine lv_bipush (v := 10) hx hb dX10_advance_21 (by decide) ?_
        refine lv_icmp_ne (tgt := 39) hx hb dX10_advance_23 (by decide) (fun c23 => ?_) (fun c23 => ?_)
        · skip
          have kl10 : (10 : Int32).toInt = 10 := by decide
          have f23 := i_ne c23
          refine lv_aload_n hx hb dX10_advance_39 rfl (lv_at hl 0 rfl) ?_
          refine lv_aload_n hx hb dX10_advance_40 rfl (lv_at hl 0 rfl) ?_
          refine ti_getE (ci := 10) (v := .int j0_Ma0_9) hx hb hts inlX10 hown hK hM0_a0_9 rfl (by decide) (hts _ kw_379) (fun _ h9 => h9) dX10_advance_41 ?_
          refine ti_put (ty := .int) hx hb hts inlX10 tyX10 tyX10_ok nmX10 hown hK hT hS ha0 rfl rfl rfl rfl 10 (by decide) (hts _ kw_387) (fun _ h9 => h9) rfl rfl (by decide +kernel) rfl rfl ⟨j0_Ma0_9, rfl, iv_w hj0_Ma0_9 (by decide)⟩ (fun _ _ => trivial) dX10_advance_44 (fun H locs hT hS oq44 he44 hk44 => ?_)
          refine lv_aload_n hx hb dX10_advance_47 rfl (lv_at hl 0 rfl) ?_
          refine lv_aload_n hx hb dX10_advance_48 rfl (lv_at hl 0 rfl) ?_
          refine ti_getE (ci := 10) (v := .int j0_Ma0_9) hx hb hts inlX10 hown hK (hk44 _ _ (by decide) hM0_a0_9) rfl (by decide) (hts _ kw_379) (fun _ h9 => h9) dX10_advance_49 ?_
          refine ti_calli (va_runV (As := [.int j0_Ma0_9]) (rest := []) ⟨hx, hb, hml, hown, hts⟩ (t_X10_see l hT ha0 (iv_w hj0_Ma0_9 (by decide)) hU) (cwV 1 hts (good_V kw_395 kw_396 kw_397 kw_5 kw_398) rfl rfl rfl (by decide +kernel) ⟨by rw [hR]; decide, by rw [hR]; decide⟩) (ti_preV hK hT ha0 rfl rfl) rfl rfl hl.1 rfl (lv_room (Nat.le_of_ble_eq_true rfl)) dX10_advance_52 ⟨Nat.zero_le _, Nat.zero_le _⟩) hS (pW_sub rfl) (fun v52 H1 locs hB hS _ hk52 => ?_)
          obtain ⟨hH, hv52, hp52⟩ := hB
          rw [hH] at hS ⊢
          refine lv_istore_n (lv' := [(1, .int v52), (0, .ref a0)]) hx hb dX10_advance_55 rfl hl (by decide) rfl (fun ls hl => ?_)
          refine lv_iload_n hx hb dX10_advance_56 rfl (lv_at hl 0 rfl) ?_
          refine lv_iconst (v := (-1)) hx hb dX10_advance_57 (by decide) ?_
          refine lv_icmp_ne (tgt := 69) hx hb dX10_advance_58 (by decide) (fun c58 => ?_) (fun c58 => ?_)
          · skip
            have klm1 : (-1 : Int32).toInt = (-1) := by decide
            have f58 := i_ne c58
            have hv52_58l : iv v52 0 255 := iv_nel hv52 (iv_c (x := (-1 : Int32)) (k := (-1)) (by decide)) c58 (by decide)
            have hq58_52 : iv j0_Ma0_9 0 1599 := by have := hp52; have b0a := (hv52_58l).1; have b0b := (hv52_58l).2; have b1a := (hj0_Ma0_9).1; have b1b := (hj0_Ma0_9).2; exact ⟨by omega, by omega⟩
            refine lv_iload_n hx hb dX10_advance_69 rfl (lv_at hl 0 rfl) ?_
            refine lv_i2l hx hb dX10_advance_70 rfl ?_
            refine lv_topl (fun v70 e70 => ?_)
            have hv70 : jv v70 0 255 := by rw [e70]; exact jv_i hv52_58l
            have t70 : v70.toInt = v52.toInt := by rw [e70]; exact jv_e _
            refine lv_ldc2 (v := 97) hx hb hown (hts _ kw_388) dX10_advance_71 ?_
            have kj97 : (97 : Int64).toInt = 97 := by decide
            refine lv_ldc2 (v := 122) hx hb hown (hts _ kw_389) dX10_advance_74 ?_
            have kj122 : (122 : Int64).toInt = 122 := by decide
            refine ti_calli (va_runS (As := [.long v70, .long (97 : Int64), .long (122 : Int64)]) (rest := []) ⟨hx, hb, hml, hown, hts⟩ (t_X10_in l hT (jv_w hv70 (by decide)) (jv_w (jv_c (x := (97 : Int64)) (k := 97) (by decide)) (by decide)) (jv_w (jv_c (x := (122 : Int64)) (k := 122) (by decide)) (by decide))) (cwS 3 hts (good_S kw_181 kw_182 kw_5 kw_183) rfl rfl rfl (by decide +kernel) ⟨by rw [hR]; decide, by rw [hR]; decide⟩) (ti_preS hK) rfl rfl hl.1 rfl (lv_room (Nat.le_of_ble_eq_true rfl)) dX10_advance_77 ⟨Nat.zero_le _, Nat.zero_le _⟩) hS (pW_sub rfl) (fun v77 H1 locs hB hS _ hk77 => ?_)
            obtain ⟨hH, hv77, hp77⟩ := hB
            rw [hH] at hS ⊢
            have J83 : ∀ (n : Nat) (j83_Ma0_9 : Int32) (H : Heap) (locs : List Loc) (ls : Array Slot), (1600 - j83_Ma0_9.toInt).toNat < n → iv j83_Ma0_9 0 1600 → fi D vwCl a0 10 9 (.int j83_Ma0_9) H → fi D vwCl a0 10 13 (.int m0) H → (m1.toInt ≤ j83_Ma0_9.toInt) → TI D vwCl (tysOf c0) (RTg ν) Y H → va_S (pW Y [10]) s.heap H locs → lv_has ls 2 [(0, .ref a0), (1, .int v52)] → W p l e R s m ([.ref a0] : List Value).toArray below meth c H locs 0 0 Q (F0 m 83 ls []) := by
              intro n
              induction n with
              | zero => intro j83_Ma0_9 H locs ls hms; exact absurd hms (Nat.not_lt_zero _)
              | succ n ih83 =>
                intro j83_Ma0_9 H locs ls hms83 hj83_Ma0_9 hM83_a0_9 hM83_a0_13 hT83_0 hT hS hl
                refine lv_aload_n hx hb dX10_advance_83 rfl (lv_at hl 0 rfl) ?_
                refine lv_aload_n hx hb dX10_advance_84 rfl (lv_at hl 0 rfl) ?_
                refine ti_getE (ci := 10) (v := .int j83_Ma0_9) hx hb hts inlX10 hown hK hM83_a0_9 rfl (by decide) (hts _ kw_379) (fun _ h9 => h9) dX10_advance_85 ?_
                refine ti_calli (va_runV (As := [.int j83_Ma0_9]) (rest := []) ⟨hx, hb, hml, hown, hts⟩ (t_X10_see l hT ha0 (iv_w hj83_Ma0_9 (by decide)) hU) (cwV 1 hts (good_V kw_395 kw_396 kw_397 kw_5 kw_398) rfl rfl rfl (by decide +kernel) ⟨by rw [hR]; decide, by rw [hR]; decide⟩) (ti_preV hK hT ha0 rfl rfl) rfl rfl hl.1 rfl (lv_room (Nat.le_of_ble_eq_true rfl)) dX10_advance_88 ⟨Nat.zero_le _, Nat.zero_le _⟩) hS (pW_sub rfl) (fun v88 H1 locs hB hS _ hk88 => ?_)
                obtain ⟨hH, hv88, hp88⟩ := hB
                rw [hH] at hS ⊢
                refine lv_i2l hx hb dX10_advance_91 rfl ?_
                refine lv_topl (fun v91 e91 => ?_)
                have hv91 : jv v91 (-1) 255 := by rw [e91]; exact jv_i hv88
                have t91 : v91.toInt = v88.toInt := by rw [e91]; exact jv_e _
                refine lv_ldc2 (v := 97) hx hb hown (hts _ kw_388) dX10_advance_92 ?_
                refine lv_ldc2 (v := 122) hx hb hown (hts _ kw_389) dX10_advance_95 ?_
                refine ti_calli (va_runS (As := [.long v91, .long (97 : Int64), .long (122 : Int64)]) (rest := []) ⟨hx, hb, hml, hown, hts⟩ (t_X10_in l hT (jv_w hv91 (by decide)) (jv_w (jv_c (x := (97 : Int64)) (k := 97) (by decide)) (by decide)) (jv_w (jv_c (x := (122 : Int64)) (k := 122) (by decide)) (by decide))) (cwS 3 hts (good_S kw_181 kw_182 kw_5 kw_183) rfl rfl rfl (by decide +kernel) ⟨by rw [hR]; decide, by rw [hR]; decide⟩) (ti_preS hK) rfl rfl hl.1 rfl (lv_room (Nat.le_of_ble_eq_true rfl)) dX10_advance_98 ⟨Nat.zero_le _, Nat.zero_le _⟩) hS (pW_sub rfl) (fun v98 H1 locs hB hS _ hk98 => ?_)
                obtain ⟨hH, hv98, hp98⟩ := hB
                rw [hH] at hS ⊢
                refine lv_if_eq (tgt := 117) hx hb dX10_advance_101 (by decide) (fun c101 => ?_) (fun c101 => ?_)
                · skip
                  have kl0 : (0 : Int32).toInt = 0 := by decide
                  have f101 := i_eq c101
                  have hv98_101l : iv v98 0 0 := iv_eql hv98 (iv_c (x := (0 : Int32)) (k := 0) (by decide)) c101 (by decide)
                  refine lv_aload_n hx hb dX10_advance_117 rfl (lv_at hl 0 rfl) ?_
                  refine lv_iconst (v := 1) hx hb dX10_advance_118 (by decide) ?_
                  refine ti_put (ty := .int) hx hb hts inlX10 tyX10 tyX10_ok nmX10 hown hK hT hS ha0 rfl rfl rfl rfl 11 (by decide) (hts _ kw_381) (fun _ h9 => h9) rfl rfl (by decide +kernel) rfl rfl ⟨(1 : Int32), rfl, iv_w (iv_c (x := (1 : Int32)) (k := 1) (by decide)) (by decide)⟩ (fun _ _ => trivial) dX10_advance_119 (fun H locs hT hS oq119 he119 hk119 => ?_)
                  refine lv_goto (tgt := 239) hx hb dX10_advance_122 (by decide) ?_
                  have kl1 : (1 : Int32).toInt = 1 := by decide
                  exact ret _ _ _ _ dX10_advance_239 (⟨hT, ⟨m0, (hk119 _ _ (by decide) hM83_a0_13), iv_w hmi0 (by decide), (by have b0a := (hmi0).1; have b0b := (hmi0).2; have b1a := (hmi1).1; have b1b := (hmi1).2; have b2a := (hq58_52).1; have b2b := (hq58_52).2; have b3a := (hv5).1; have b3b := (hv5).2; have b4a := (hv18).1; have b4b := (hv18).2; have b5a := (hv52_58l).1; have b5b := (hv52_58l).2; have b6a := (hv70).1; have b6b := (hv70).2; have b7a := (hv77).1; have b7b := (hv77).2; have b8a := (hj83_Ma0_9).1; have b8b := (hj83_Ma0_9).2; have b9a := (hv88).1; have b9b := (hv88).2; have b10a := (hv91).1; have b10b := (hv91).2; have b11a := (hv98_101l).1; have b11b := (hv98_101l).2; omega), j83_Ma0_9, (hk119 _ _ (by decide) hM83_a0_9), iv_w hj83_Ma0_9 (by decide), (by have b0a := (hmi0).1; have b0b := (hmi0).2; have b1a := (hmi1).1; have b1b := (hmi1).2; have b2a := (hq58_52).1; have b2b := (hq58_52).2; have b3a := (hv5).1; have b3b := (hv5).2; have b4a := (hv18).1; have b4b := (hv18).2; have b5a := (hv52_58l).1; have b5b := (hv52_58l).2; have b6a := (hv70).1; have b6b := (hv70).2; have b7a := (hv77).1; have b7b := (hv77).2; have b8a := (hj83_Ma0_9).1; have b8b := (hj83_Ma0_9).2; have b9a := (hv88).1; have b9b := (hv88).2; have b10a := (hv91).1; have b10b := (hv91).2; have b11a := (hv98_101l).1; have b11b := (hv98_101l).2; omega), (1 : Int32), he119, iv_w (iv_c (x := (1 : Int32)) (k := 1) (by decide)) (by decide), (by have b0a := (hmi0).1; have b0b := (hmi0).2; have b1a := (hmi1).1; have b1b := (hmi1).2; have b2a := (hq58_52).1; have b2b := (hq58_52).2; have b3a := (hv5).1; have b3b := (hv5).2; have b4a := (hv18).1; have b4b := (hv18).2; have b5a := (hv52_58l).1; have b5b := (hv52_58l).2; have b6a := (hv70).1; have b6b := (hv70).2; have b7a := (hv77).1; have b7b := (hv77).2; have b8a := (hj83_Ma0_9).1; have b8b := (hj83_Ma0_9).2; have b9a := (hv88).1; have b9b := (hv88).2; have b10a := (hv91).1; have b10b := (hv91).2; have b11a := (hv98_101l).1; have b11b := (hv98_101l).2; omega)⟩⟩) hS
                · skip
                  have kl0 : (0 : Int32).toInt = 0 := by decide
                  have f101 := i_ne c101
                  have hv98_101l : iv v98 1 1 := iv_nel hv98 (iv_c (x := (0 : Int32)) (k := 0) (by decide)) c101 (by decide)
                  have hv91_101p : jv v91 97 122 := by have b0a := (hv91).1; have b0b := (hv91).2; have b1a := ((jv_c (x := (97 : Int64)) (k := 97) (by decide))).1; have b1b := ((jv_c (x := (97 : Int64)) (k := 97) (by decide))).2; have b2a := ((jv_c (x := (122 : Int64)) (k := 122) (by decide))).1; have b2b := ((jv_c (x := (122 : Int64)) (k := 122) (by decide))).2; exact ⟨by omega, by omega⟩
                  have hv88_101p : iv v88 97 122 := by have := t91; have b0a := (hv91_101p).1; have b0b := (hv91_101p).2; have b1a := (hv88).1; have b1b := (hv88).2; exact ⟨by omega, by omega⟩
                  have hq101_53 : iv j83_Ma0_9 0 1599 := by have := hp88; have b0a := (hv88_101p).1; have b0b := (hv88_101p).2; have b1a := (hj83_Ma0_9).1; have b1b := (hj83_Ma0_9).2; exact ⟨by omega, by omega⟩
                  refine lv_aload_n hx hb dX10_advance_104 rfl (lv_at hl 0 rfl) ?_
                  refine lv_dup hx hb dX10_advance_105 rfl ?_
                  refine ti_getE (ci := 10) (v := .int j83_Ma0_9) hx hb hts inlX10 hown hK hM83_a0_9 rfl (by decide) (hts _ kw_379) (fun _ h9 => h9) dX10_advance_106 ?_
                  refine lv_iconst (v := 1) hx hb dX10_advance_109 (by decide) ?_
                  refine lv_iadd hx hb dX10_advance_110 ?_
                  refine lv_topi (fun v110 e110 => ?_)
                  have hv110 : iv v110 1 1600 := by rw [e110]; exact iv_w (iv_add hq101_53 (iv_c (x := (1 : Int32)) (k := 1) (by decide)) (by decide)) (by decide)
                  have s110 : v110.toInt = j83_Ma0_9.toInt + 1 := by rw [e110, iv_addE hq101_53 (iv_c (x := (1 : Int32)) (k := 1) (by decide)) (by decide)]; rfl
                  have kl1 : (1 : Int32).toInt = 1 := by decide
                  refine ti_put (ty := .int) hx hb hts inlX10 tyX10 tyX10_ok nmX10 hown hK hT hS ha0 rfl rfl rfl rfl 9 (by decide) (hts _ kw_379) (fun _ h9 => h9) rfl rfl (by decide +kernel) rfl rfl ⟨v110, rfl, iv_w hv110 (by decide)⟩ (fun _ _ => trivial) dX10_advance_111 (fun H locs hT hS oq111 he111 hk111 => ?_)
                  refine lv_goto (tgt := 83) hx hb dX10_advance_114 (by decide) ?_
                  exact ih83 v110 _ _ _ (ms_up hms83 (by have := s110; omega) (iv_w (c := 1) (d := 1600) hv110 (by decide)).2) (iv_w hv110 (by decide)) he111 (hk111 _ _ (by decide) hM83_a0_13) (by have b0a := (hmi0).1; have b0b := (hmi0).2; have b1a := (hmi1).1; have b1b := (hmi1).2; have b2a := (hq58_52).1; have b2b := (hq58_52).2; have b3a := (hv5).1; have b3b := (hv5).2; have b4a := (hv18).1; have b4b := (hv18).2; have b5a := (hv52_58l).1; have b5b := (hv52_58l).2; have b6a := (hv70).1; have b6b := (hv70).2; have b7a := (hv77).1; have b7b := (hv77).2; have b8a := (hq101_53).1; have b8b := (hq101_53).2; have b9a := (hv88_101p).1; have b9b := (hv88_101p).2; have b10a := (hv91_101p).1; have b10b := (hv91_101p).2; have b11a := (hv98_101l).1; have b11b := (hv98_101l).2; have b12a := (hv110).1; have b12b := (hv110).2; omega) hT hS (lv_sub hl [0, 1] rfl)
            refine lv_if_eq (tgt := 125) hx hb dX10_advance_80 (by decide) (fun c80 => ?_) (fun c80 => ?_)
            · skip
              have kl0 : (0 : Int32).toInt = 0 := by decide
              have f80 := i_eq c80
              have hv77_80l : iv v77 0 0 := iv_eql hv77 (iv_c (x := (0 : Int32)) (k := 0) (by decide)) c80 (by decide)
              refine lv_iload_n hx hb dX10_advance_125 rfl (lv_at hl 0 rfl) ?_
              refine lv_i2l hx hb dX10_advance_126 rfl ?_
              refine lv_topl (fun v126 e126 => ?_)
              have hv126 : jv v126 0 255 := by rw [e126]; exact jv_i hv52_58l
              have t126 : v126.toInt = v52.toInt := by rw [e126]; exact jv_e _
              refine lv_ldc2 (v := 48) hx hb hown (hts _ kw_390) dX10_advance_127 ?_
              have kj48 : (48 : Int64).toInt = 48 := by decide
              refine lv_ldc2 (v := 57) hx hb hown (hts _ kw_391) dX10_advance_130 ?_
              have kj57 : (57 : Int64).toInt = 57 := by decide
              refine ti_calli (va_runS (As := [.long v126, .long (48 : Int64), .long (57 : Int64)]) (rest := []) ⟨hx, hb, hml, hown, hts⟩ (t_X10_in l hT (jv_w hv126 (by decide)) (jv_w (jv_c (x := (48 : Int64)) (k := 48) (by decide)) (by decide)) (jv_w (jv_c (x := (57 : Int64)) (k := 57) (by decide)) (by decide))) (cwS 3 hts (good_S kw_181 kw_182 kw_5 kw_183) rfl rfl rfl (by decide +kernel) ⟨by rw [hR]; decide, by rw [hR]; decide⟩) (ti_preS hK) rfl rfl hl.1 rfl (lv_room (Nat.le_of_ble_eq_true rfl)) dX10_advance_133 ⟨Nat.zero_le _, Nat.zero_le _⟩) hS (pW_sub rfl) (fun v133 H1 locs hB hS _ hk133 => ?_)
              obtain ⟨hH, hv133, hp133⟩ := hB
              rw [hH] at hS ⊢
              refine lv_if_eq (tgt := 214) hx hb dX10_advance_136 (by decide) (fun c136 => ?_) (fun c136 => ?_)
              · skip
                have f136 := i_eq c136
                have hv133_136l : iv v133 0 0 := iv_eql hv133 (iv_c (x := (0 : Int32)) (k := 0) (by decide)) c136 (by decide)
                refine lv_aload_n hx hb dX10_advance_214 rfl (lv_at hl 1 rfl) ?_
                refine lv_iload_n hx hb dX10_advance_215 rfl (lv_at hl 0 rfl) ?_
                refine lv_bipush (v := 59) hx hb dX10_advance_216 (by decide) ?_
                have J226 : ∀ (j226_S1 : Int32) (H : Heap) (locs : List Loc) (ls : Array Slot), iv j226_S1 3 4 → fi D vwCl a0 10 9 (.int j0_Ma0_9) H → fi D vwCl a0 10 13 (.int m0) H → (m1.toInt ≤ j0_Ma0_9.toInt) → TI D vwCl (tysOf c0) (RTg ν) Y H → va_S (pW Y [10]) s.heap H locs → lv_has ls 2 [(0, .ref a0), (1, .int v52)] → W p l e R s m ([.ref a0] : List Value).toArray below meth c H locs 0 0 Q (F0 m 226 ls [.int j226_S1, .ref a0]) := by
                  intro j226_S1 H locs ls hj226_S1 hM226_a0_9 hM226_a0_13 hT226_0 hT hS hl
                  refine ti_put (ty := .int) hx hb hts inlX10 tyX10 tyX10_ok nmX10 hown hK hT hS ha0 rfl rfl rfl rfl 11 (by decide) (hts _ kw_381) (fun _ h9 => h9) rfl rfl (by decide +kernel) rfl rfl ⟨j226_S1, rfl, iv_w hj226_S1 (by decide)⟩ (fun _ _ => trivial) dX10_advance_226 (fun H locs hT hS oq226 he226 hk226 => ?_)
                  refine lv_aload_n hx hb dX10_advance_229 rfl (lv_at hl 0 rfl) ?_
                  refine lv_dup hx hb dX10_advance_230 rfl ?_
                  refine ti_getE (ci := 10) (v := .int j0_Ma0_9) hx hb hts inlX10 hown hK (hk226 _ _ (by decide) hM226_a0_9) rfl (by decide) (hts _ kw_379) (fun _ h9 => h9) dX10_advance_231 ?_
                  refine lv_iconst (v := 1) hx hb dX10_advance_234 (by decide) ?_
                  refine lv_iadd hx hb dX10_advance_235 ?_
                  refine lv_topi (fun v235 e235 => ?_)
                  have hv235 : iv v235 1 1600 := by rw [e235]; exact iv_w (iv_add hq58_52 (iv_c (x := (1 : Int32)) (k := 1) (by decide)) (by decide)) (by decide)
                  have s235 : v235.toInt = j0_Ma0_9.toInt + 1 := by rw [e235, iv_addE hq58_52 (iv_c (x := (1 : Int32)) (k := 1) (by decide)) (by decide)]; rfl
                  have kl1 : (1 : Int32).toInt = 1 := by decide
                  refine ti_put (ty := .int) hx hb hts inlX10 tyX10 tyX10_ok nmX10 hown hK hT hS ha0 rfl rfl rfl rfl 9 (by decide) (hts _ kw_379) (fun _ h9 => h9) rfl rfl (by decide +kernel) rfl rfl ⟨v235, rfl, iv_w hv235 (by decide)⟩ (fun _ _ => trivial) dX10_advance_236 (fun H locs hT hS oq236 he236 hk236 => ?_)
                  exact ret _ _ _ _ dX10_advance_239 (⟨hT, ⟨m0, (hk236 _ _ (by decide) (hk226 _ _ (by decide) hM226_a0_13)), iv_w hmi0 (by decide), (by have b0a := (hmi0).1; have b0b := (hmi0).2; have b1a := (hmi1).1; have b1b := (hmi1).2; have b2a := (hq58_52).1; have b2b := (hq58_52).2; have b3a := (hv5).1; have b3b := (hv5).2; have b4a := (hv18).1; have b4b := (hv18).2; have b5a := (hv52_58l).1; have b5b := (hv52_58l).2; have b6a := (hv70).1; have b6b := (hv70).2; have b7a := (hv77_80l).1; have b7b := (hv77_80l).2; have b8a := (hv126).1; have b8b := (hv126).2; have b9a := (hv133_136l).1; have b9b := (hv133_136l).2; have b10a := (hj226_S1).1; have b10b := (hj226_S1).2; have b11a := (hv235).1; have b11b := (hv235).2; omega), v235, he236, iv_w hv235 (by decide), (by have b0a := (hmi0).1; have b0b := (hmi0).2; have b1a := (hmi1).1; have b1b := (hmi1).2; have b2a := (hq58_52).1; have b2b := (hq58_52).2; have b3a := (hv5).1; have b3b := (hv5).2; have b4a := (hv18).1; have b4b := (hv18).2; have b5a := (hv52_58l).1; have b5b := (hv52_58l).2; have b6a := (hv70).1; have b6b := (hv70).2; have b7a := (hv77_80l).1; have b7b := (hv77_80l).2; have b8a := (hv126).1; have b8b := (hv126).2; have b9a := (hv133_136l).1; have b9b := (hv133_136l).2; have b10a := (hj226_S1).1; have b10b := (hj226_S1).2; have b11a := (hv235).1; have b11b := (hv235).2; omega), j226_S1, (hk236 _ _ (by decide) he226), iv_w hj226_S1 (by decide), (by have b0a := (hmi0).1; have b0b := (hmi0).2; have b1a := (hmi1).1; have b1b := (hmi1).2; have b2a := (hq58_52).1; have b2b := (hq58_52).2; have b3a := (hv5).1; have b3b := (hv5).2; have b4a := (hv18).1; have b4b := (hv18).2; have b5a := (hv52_58l).1; have b5b := (hv52_58l).2; have b6a := (hv70).1; have b6b := (hv70).2; have b7a := (hv77_80l).1; have b7b := (hv77_80l).2; have b8a := (hv126).1; have b8b := (hv126).2; have b9a := (hv133_136l).1; have b9b := (hv133_136l).2; have b10a := (hj226_S1).1; have b10b := (hj226_S1).2; have b11a := (hv235).1; have b11b := (hv235).2; omega)⟩⟩) hS
                refine lv_icmp_ne (tgt := 225) hx hb dX10_advance_218 (by decide) (fun c218 => ?_) (fun c218 => ?_)
                · skip
                  have kl59 : (59 : Int32).toInt = 59 := by decide
                  have f218 := i_ne c218
                  refine lv_iconst (v := 4) hx hb dX10_advance_225 (by decide) ?_
                  exact J226 (4 : Int32) _ _ _  (iv_w (iv_c (x := (4 : Int32)) (k := 4) (by decide)) (by decide)) (hk44 _ _ (by decide) hM0_a0_9) (hk44 _ _ (by decide) hM0_a0_13) (by have b0a := (hmi0).1; have b0b := (hmi0).2; have b1a := (hmi1).1; have b1b := (hmi1).2; have b2a := (hq58_52).1; have b2b := (hq58_52).2; have b3a := (hv5).1; have b3b := (hv5).2; have b4a := (hv18).1; have b4b := (hv18).2; have b5a := (hv52_58l).1; have b5b := (hv52_58l).2; have b6a := (hv70).1; have b6b := (hv70).2; have b7a := (hv77_80l).1; have b7b := (hv77_80l).2; have b8a := (hv126).1; have b8b := (hv126).2; have b9a := (hv133_136l).1; have b9b := (hv133_136l).2; omega) hT hS (lv_sub hl [1, 0] rfl)
                · skip
                  have kl59 : (59 : Int32).toInt = 59 := by decide
                  have f218 := i_eq c218
                  have hv52_218l : iv v52 59 59 := iv_eql hv52_58l (iv_c (x := (59 : Int32)) (k := 59) (by decide)) c218 (by decide)
                  refine lv_iconst (v := 3) hx hb dX10_advance_221 (by decide) ?_
                  refine lv_goto (tgt := 226) hx hb dX10_advance_222 (by decide) ?_
                  exact J226 (3 : Int32) _ _ _  (iv_w (iv_c (x := (3 : Int32)) (k := 3) (by decide)) (by decide)) (hk44 _ _ (by decide) hM0_a0_9) (hk44 _ _ (by decide) hM0_a0_13) (by have b0a := (hmi0).1; have b0b := (hmi0).2; have b1a := (hmi1).1; have b1b := (hmi1).2; have b2a := (hq58_52).1; have b2b := (hq58_52).2; have b3a := (hv5).1; have b3b := (hv5).2; have b4a := (hv18).1; have b4b := (hv18).2; have b5a := (hv52_218l).1; have b5b := (hv52_218l).2; have b6a := (hv70).1; have b6b := (hv70).2; have b7a := (hv77_80l).1; have b7b := (hv77_80l).2; have b8a := (hv126).1; have b8b := (hv126).2; have b9a := (hv133_136l).1; have b9b := (hv133_136l).2; omega) hT hS (lv_sub hl [1, 0] rfl)
              · skip
                have f136 := i_ne c136
                have hv133_136l : iv v133 1 1 := iv_nel hv133 (iv_c (x := (0 : Int32)) (k := 0) (by decide)) c136 (by decide)
                have hv126_136p : jv v126 48 57 := by have b0a := (hv126).1; have b0b := (hv126).2; have b1a := ((jv_c (x := (48 : Int64)) (k := 48) (by decide))).1; have b1b := ((jv_c (x := (48 : Int64)) (k := 48) (by decide))).2; have b2a := ((jv_c (x := (57 : Int64)) (k := 57) (by decide))).1; have b2b := ((jv_c (x := (57 : Int64)) (k := 57) (by decide))).2; exact ⟨by omega, by omega⟩
                have hv52_136p : iv v52 48 57 := by have := t126; have b0a := (hv126_136p).1; have b0b := (hv126_136p).2; have b1a := (hv52_58l).1; have b1b := (hv52_58l).2; exact ⟨by omega, by omega⟩
                refine lv_aload_n hx hb dX10_advance_139 rfl (lv_at hl 1 rfl) ?_
                refine lv_iconst (v := 0) hx hb dX10_advance_140 (by decide) ?_
                have J144 : ∀ (n : Nat) (j144_Ma0_9 : Int32) (H : Heap) (locs : List Loc) (ls : Array Slot), (1600 - j144_Ma0_9.toInt).toNat < n → iv j144_Ma0_9 0 1600 → fi D vwCl a0 10 9 (.int j144_Ma0_9) H → fi D vwCl a0 10 13 (.int m0) H → (m1.toInt ≤ j144_Ma0_9.toInt) → TI D vwCl (tysOf c0) (RTg ν) Y H → va_S (pW Y [10]) s.heap H locs → lv_has ls 2 [(0, .ref a0), (1, .int v52)] → W p l e R s m ([.ref a0] : List Value).toArray below meth c H locs 0 0 Q (F0 m 144 ls []) := by
                  intro n
                  induction n with
                  | zero => intro j144_Ma0_9 H locs ls hms; exact absurd hms (Nat.not_lt_zero _)
                  | succ n ih144 =>
                    intro j144_Ma0_9 H locs ls hms144 hj144_Ma0_9 hM144_a0_9 hM144_a0_13 hT144_0 hT hS hl
                    refine lv_aload_n hx hb dX10_advance_144 rfl (lv_at hl 0 rfl) ?_
                    refine lv_aload_n hx hb dX10_advance_145 rfl (lv_at hl 0 rfl) ?_
                    refine ti_getE (ci := 10) (v := .int j144_Ma0_9) hx hb hts inlX10 hown hK hM144_a0_9 rfl (by decide) (hts _ kw_379) (fun _ h9 => h9) dX10_advance_146 ?_
                    refine ti_calli (va_runV (As := [.int j144_Ma0_9]) (rest := []) ⟨hx, hb, hml, hown, hts⟩ (t_X10_see l hT ha0 (iv_w hj144_Ma0_9 (by decide)) hU) (cwV 1 hts (good_V kw_395 kw_396 kw_397 kw_5 kw_398) rfl rfl rfl (by decide +kernel) ⟨by rw [hR]; decide, by rw [hR]; decide⟩) (ti_preV hK hT ha0 rfl rfl) rfl rfl hl.1 rfl (lv_room (Nat.le_of_ble_eq_true rfl)) dX10_advance_149 ⟨Nat.zero_le _, Nat.zero_le _⟩) hS (pW_sub rfl) (fun v149 H1 locs hB hS _ hk149 => ?_)
                    obtain ⟨hH, hv149, hp149⟩ := hB
                    rw [hH] at hS ⊢
                    refine lv_i2l hx hb dX10_advance_152 rfl ?_
                    refine lv_topl (fun v152 e152 => ?_)
                    have hv152 : jv v152 (-1) 255 := by rw [e152]; exact jv_i hv149
                    have t152 : v152.toInt = v149.toInt := by rw [e152]; exact jv_e _
                    refine lv_ldc2 (v := 48) hx hb hown (hts _ kw_390) dX10_advance_153 ?_
                    refine lv_ldc2 (v := 57) hx hb hown (hts _ kw_391) dX10_advance_156 ?_
                    refine ti_calli (va_runS (As := [.long v152, .long (48 : Int64), .long (57 : Int64)]) (rest := []) ⟨hx, hb, hml, hown, hts⟩ (t_X10_in l hT (jv_w hv152 (by decide)) (jv_w (jv_c (x := (48 : Int64)) (k := 48) (by decide)) (by decide)) (jv_w (jv_c (x := (57 : Int64)) (k := 57) (by decide)) (by decide))) (cwS 3 hts (good_S kw_181 kw_182 kw_5 kw_183) rfl rfl rfl (by decide +kernel) ⟨by rw [hR]; decide, by rw [hR]; decide⟩) (ti_preS hK) rfl rfl hl.1 rfl (lv_room (Nat.le_of_ble_eq_true rfl)) dX10_advance_159 ⟨Nat.zero_le _, Nat.zero_le _⟩) hS (pW_sub rfl) (fun v159 H1 locs hB hS _ hk159 => ?_)
                    obtain ⟨hH, hv159, hp159⟩ := hB
                    rw [hH] at hS ⊢
                    refine lv_if_eq (tgt := 206) hx hb dX10_advance_162 (by decide) (fun c162 => ?_) (fun c162 => ?_)
                    · skip
                      have f162 := i_eq c162
                      have hv159_162l : iv v159 0 0 := iv_eql hv159 (iv_c (x := (0 : Int32)) (k := 0) (by decide)) c162 (by decide)
                      refine lv_aload_n hx hb dX10_advance_206 rfl (lv_at hl 0 rfl) ?_
                      refine lv_iconst (v := 2) hx hb dX10_advance_207 (by decide) ?_
                      refine ti_put (ty := .int) hx hb hts inlX10 tyX10 tyX10_ok nmX10 hown hK hT hS ha0 rfl rfl rfl rfl 11 (by decide) (hts _ kw_381) (fun _ h9 => h9) rfl rfl (by decide +kernel) rfl rfl ⟨(2 : Int32), rfl, iv_w (iv_c (x := (2 : Int32)) (k := 2) (by decide)) (by decide)⟩ (fun _ _ => trivial) dX10_advance_208 (fun H locs hT hS oq208 he208 hk208 => ?_)
                      refine lv_goto (tgt := 239) hx hb dX10_advance_211 (by decide) ?_
                      have kl2 : (2 : Int32).toInt = 2 := by decide
                      exact ret _ _ _ _ dX10_advance_239 (⟨hT, ⟨m0, (hk208 _ _ (by decide) hM144_a0_13), iv_w hmi0 (by decide), (by have b0a := (hmi0).1; have b0b := (hmi0).2; have b1a := (hmi1).1; have b1b := (hmi1).2; have b2a := (hq58_52).1; have b2b := (hq58_52).2; have b3a := (hv5).1; have b3b := (hv5).2; have b4a := (hv18).1; have b4b := (hv18).2; have b5a := (hv52_136p).1; have b5b := (hv52_136p).2; have b6a := (hv70).1; have b6b := (hv70).2; have b7a := (hv77_80l).1; have b7b := (hv77_80l).2; have b8a := (hv126_136p).1; have b8b := (hv126_136p).2; have b9a := (hv133_136l).1; have b9b := (hv133_136l).2; have b10a := (hj144_Ma0_9).1; have b10b := (hj144_Ma0_9).2; have b11a := (hv149).1; have b11b := (hv149).2; have b12a := (hv152).1; have b12b := (hv152).2; have b13a := (hv159_162l).1; have b13b := (hv159_162l).2; omega), j144_Ma0_9, (hk208 _ _ (by decide) hM144_a0_9), iv_w hj144_Ma0_9 (by decide), (by have b0a := (hmi0).1; have b0b := (hmi0).2; have b1a := (hmi1).1; have b1b := (hmi1).2; have b2a := (hq58_52).1; have b2b := (hq58_52).2; have b3a := (hv5).1; have b3b := (hv5).2; have b4a := (hv18).1; have b4b := (hv18).2; have b5a := (hv52_136p).1; have b5b := (hv52_136p).2; have b6a := (hv70).1; have b6b := (hv70).2; have b7a := (hv77_80l).1; have b7b := (hv77_80l).2; have b8a := (hv126_136p).1; have b8b := (hv126_136p).2; have b9a := (hv133_136l).1; have b9b := (hv133_136l).2; have b10a := (hj144_Ma0_9).1; have b10b := (hj144_Ma0_9).2; have b11a := (hv149).1; have b11b := (hv149).2; have b12a := (hv152).1; have b12b := (hv152).2; have b13a := (hv159_162l).1; have b13b := (hv159_162l).2; omega), (2 : Int32), he208, iv_w (iv_c (x := (2 : Int32)) (k := 2) (by decide)) (by decide), (by have b0a := (hmi0).1; have b0b := (hmi0).2; have b1a := (hmi1).1; have b1b := (hmi1).2; have b2a := (hq58_52).1; have b2b := (hq58_52).2; have b3a := (hv5).1; have b3b := (hv5).2; have b4a := (hv18).1; have b4b := (hv18).2; have b5a := (hv52_136p).1; have b5b := (hv52_136p).2; have b6a := (hv70).1; have b6b := (hv70).2; have b7a := (hv77_80l).1; have b7b := (hv77_80l).2; have b8a := (hv126_136p).1; have b8b := (hv126_136p).2; have b9a := (hv133_136l).1; have b9b := (hv133_136l).2; have b10a := (hj144_Ma0_9).1; have b10b := (hj144_Ma0_9).2; have b11a := (hv149).1; have b11b := (hv149).2; have b12a := (hv152).1; have b12b := (hv152).2; have b13a := (hv159_162l).1; have b13b := (hv159_162l).2; omega)⟩⟩) hS
                    · skip
                      have f162 := i_ne c162
                      have hv159_162l : iv v159 1 1 := iv_nel hv159 (iv_c (x := (0 : Int32)) (k := 0) (by decide)) c162 (by decide)
                      have hv152_162p : jv v152 48 57 := by have b0a := (hv152).1; have b0b := (hv152).2; have b1a := ((jv_c (x := (48 : Int64)) (k := 48) (by decide))).1; have b1b := ((jv_c (x := (48 : Int64)) (k := 48) (by decide))).2; have b2a := ((jv_c (x := (57 : Int64)) (k := 57) (by decide))).1; have b2b := ((jv_c (x := (57 : Int64)) (k := 57) (by decide))).2; exact ⟨by omega, by omega⟩
                      have hv149_162p : iv v149 48 57 := by have := t152; have b0a := (hv152_162p).1; have b0b := (hv152_162p).2; have b1a := (hv149).1; have b1b := (hv149).2; exact ⟨by omega, by omega⟩
                      have hq162_54 : iv j144_Ma0_9 0 1599 := by have := hp149; have b0a := (hv149_162p).1; have b0b := (hv149_162p).2; have b1a := (hj144_Ma0_9).1; have b1b := (hj144_Ma0_9).2; exact ⟨by omega, by omega⟩
                      refine lv_aload_n hx hb dX10_advance_165 rfl (lv_at hl 0 rfl) ?_
                      refine lv_ldc (v := 99999) hx hb hown (hts _ kw_393) dX10_advance_166 ?_
                      refine lv_bipush (v := 10) hx hb dX10_advance_168 (by decide) ?_
                      refine lv_aload_n hx hb dX10_advance_170 rfl (lv_at hl 0 rfl) ?_
                      refine ti_geti hx hb hts inlX10 hown hK hT ha0 rfl rfl rfl 12 (by decide) (hts _ kw_392) (fun _ h9 => h9) rfl dX10_advance_171 (fun v171 hv171 hm171 => ?_)
                      refine lv_imul hx hb dX10_advance_174 ?_
                      refine lv_topi (fun v174 e174 => ?_)
                      have hv174 : iv v174 (-2147483648) 2147483647 := iv_top _
                      refine lv_aload_n hx hb dX10_advance_175 rfl (lv_at hl 0 rfl) ?_
                      refine lv_aload_n hx hb dX10_advance_176 rfl (lv_at hl 0 rfl) ?_
                      refine ti_getE (ci := 10) (v := .int j144_Ma0_9) hx hb hts inlX10 hown hK hM144_a0_9 rfl (by decide) (hts _ kw_379) (fun _ h9 => h9) dX10_advance_177 ?_
                      refine ti_calli (va_runV (As := [.int j144_Ma0_9]) (rest := [.int v174, .int (99999 : Int32), .ref a0]) ⟨hx, hb, hml, hown, hts⟩ (t_X10_see l hT ha0 (iv_w hq162_54 (by decide)) hU) (cwV 1 hts (good_V kw_395 kw_396 kw_397 kw_5 kw_398) rfl rfl rfl (by decide +kernel) ⟨by rw [hR]; decide, by rw [hR]; decide⟩) (ti_preV hK hT ha0 rfl rfl) rfl rfl hl.1 rfl (lv_room (Nat.le_of_ble_eq_true rfl)) dX10_advance_180 ⟨Nat.zero_le _, Nat.zero_le _⟩) hS (pW_sub rfl) (fun v180 H1 locs hB hS _ hk180 => ?_)
                      obtain ⟨hH, hv180, hp180⟩ := hB
                      rw [hH] at hS ⊢
                      refine lv_iadd hx hb dX10_advance_183 ?_
                      refine lv_topi (fun v183 e183 => ?_)
                      have hv183 : iv v183 (-2147483648) 2147483647 := iv_top _
                      refine lv_bipush (v := 48) hx hb dX10_advance_184 (by decide) ?_
                      refine lv_isub hx hb dX10_advance_186 ?_
                      refine lv_topi (fun v186 e186 => ?_)
                      have hv186 : iv v186 (-2147483648) 2147483647 := iv_top _
                      refine va_mmin hx hb (by rw [hml]; exact hl.1.symm) hown (hts _ kw_394) (hts _ kw_211) (hts _ kw_212) (hts _ kw_213) (by rw [hR]; decide) (by rw [hR]; exact Nat.le_of_ble_eq_true rfl) (Nat.zero_le _) (Nat.zero_le _) dX10_advance_187 ?_
                      refine lv_topi (fun v187 e187 => ?_)
                      have hv187 : iv v187 (-2147483648) 99999 := by rw [e187]; exact iv_min (iv_c (x := (99999 : Int32)) (k := 99999) (by decide)) hv186 (by decide)
                      refine ti_put (ty := .int) hx hb hts inlX10 tyX10 tyX10_ok nmX10 hown hK hT hS ha0 rfl rfl rfl rfl 12 (by decide) (hts _ kw_392) (fun _ h9 => h9) rfl rfl (by decide +kernel) rfl rfl ⟨v187, rfl, iv_w hv187 (by decide)⟩ (fun _ _ => trivial) dX10_advance_190 (fun H locs hT hS oq190 he190 hk190 => ?_)
                      refine lv_aload_n hx hb dX10_advance_193 rfl (lv_at hl 0 rfl) ?_
                      refine lv_dup hx hb dX10_advance_194 rfl ?_
                      refine ti_getE (ci := 10) (v := .int j144_Ma0_9) hx hb hts inlX10 hown hK (hk190 _ _ (by decide) hM144_a0_9) rfl (by decide) (hts _ kw_379) (fun _ h9 => h9) dX10_advance_195 ?_
                      refine lv_iconst (v := 1) hx hb dX10_advance_198 (by decide) ?_
                      refine lv_iadd hx hb dX10_advance_199 ?_
                      refine lv_topi (fun v199 e199 => ?_)
                      have hv199 : iv v199 1 1600 := by rw [e199]; exact iv_w (iv_add hq162_54 (iv_c (x := (1 : Int32)) (k := 1) (by decide)) (by decide)) (by decide)
                      have s199 : v199.toInt = j144_Ma0_9.toInt + 1 := by rw [e199, iv_addE hq162_54 (iv_c (x := (1 : Int32)) (k := 1) (by decide)) (by decide)]; rfl
                      have kl1 : (1 : Int32).toInt = 1 := by decide
                      refine ti_put (ty := .int) hx hb hts inlX10 tyX10 tyX10_ok nmX10 hown hK hT hS ha0 rfl rfl rfl rfl 9 (by decide) (hts _ kw_379) (fun _ h9 => h9) rfl rfl (by decide +kernel) rfl rfl ⟨v199, rfl, iv_w hv199 (by decide)⟩ (fun _ _ => trivial) dX10_advance_200 (fun H locs hT hS oq200 he200 hk200 => ?_)
                      refine lv_goto (tgt := 144) hx hb dX10_advance_203 (by decide) ?_
                      exact ih144 v199 _ _ _ (ms_up hms144 (by have := s199; omega) (iv_w (c := 1) (d := 1600) hv199 (by decide)).2) (iv_w hv199 (by decide)) he200 (hk200 _ _ (by decide) (hk190 _ _ (by decide) hM144_a0_13)) (by have b0a := (hmi0).1; have b0b := (hmi0).2; have b1a := (hmi1).1; have b1b := (hmi1).2; have b2a := (hq58_52).1; have b2b := (hq58_52).2; have b3a := (hv5).1; have b3b := (hv5).2; have b4a := (hv18).1; have b4b := (hv18).2; have b5a := (hv52_136p).1; have b5b := (hv52_136p).2; have b6a := (hv70).1; have b6b := (hv70).2; have b7a := (hv77_80l).1; have b7b := (hv77_80l).2; have b8a := (hv126_136p).1; have b8b := (hv126_136p).2; have b9a := (hv133_136l).1; have b9b := (hv133_136l).2; have b10a := (hq162_54).1; have b10b := (hq162_54).2; have b11a := (hv149_162p).1; have b11b := (hv149_162p).2; have b12a := (hv152_162p).1; have b12b := (hv152_162p).2; have b13a := (hv159_162l).1; have b13b := (hv159_162l).2; have b14a := (hv171).1; have b14b := (hv171).2; have b15a := (hv174).1; have b15b := (hv174).2; have b16a := (hv180).1; have b16b := (hv180).2; have b17a := (hv183).1; have b17b := (hv183).2; have b18a := (hv186).1; have b18b := (hv186).2; have b19a := (hv187).1; have b19b := (hv187).2; have b20a := (hv199).1; have b20b := (hv199).2; omega) hT hS (lv_sub hl [0, 1] rfl)
                refine ti_put (ty := .int) hx hb hts inlX10 tyX10 tyX10_ok nmX10 hown hK hT hS ha0 rfl rfl rfl rfl 12 (by decide) (hts _ kw_392) (fun _ h9 => h9) rfl rfl (by decide +kernel) rfl rfl ⟨(0 : Int32), rfl, iv_w (iv_c (x := (0 : Int32)) (k := 0) (by decide)) (by decide)⟩ (fun _ _ => trivial) dX10_advance_141 (fun H locs hT hS oq141 he141 hk141 => ?_)
                exact J144 _ j0_Ma0_9 _ _ _ (Nat.lt_succ_self _) (iv_w hq58_52 (by decide)) (hk141 _ _ (by decide) (hk44 _ _ (by decide) hM0_a0_9)) (hk141 _ _ (by decide) (hk44 _ _ (by decide) hM0_a0_13)) (by have b0a := (hmi0).1; have b0b := (hmi0).2; have b1a := (hmi1).1; have b1b := (hmi1).2; have b2a := (hq58_52).1; have b2b := (hq58_52).2; have b3a := (hv5).1; have b3b := (hv5).2; have b4a := (hv18).1; have b4b := (hv18).2; have b5a := (hv52_136p).1; have b5b := (hv52_136p).2; have b6a := (hv70).1; have b6b := (hv70).2; have b7a := (hv77_80l).1; have b7b := (hv77_80l).2; have b8a := (hv126_136p).1; have b8b := (hv126_136p).2; have b9a := (hv133_136l).1; have b9b := (hv133_136l).2; omega) hT hS (lv_sub hl [1, 0] rfl)
            · skip
              have kl0 : (0 : Int32).toInt = 0 := by decide
              have f80 := i_ne c80
              have hv77_80l : iv v77 1 1 := iv_nel hv77 (iv_c (x := (0 : Int32)) (k := 0) (by decide)) c80 (by decide)
              have hv70_80p : jv v70 97 122 := by have b0a := (hv70).1; have b0b := (hv70).2; have b1a := ((jv_c (x := (97 : Int64)) (k := 97) (by decide))).1; have b1b := ((jv_c (x := (97 : Int64)) (k := 97) (by decide))).2; have b2a := ((jv_c (x := (122 : Int64)) (k := 122) (by decide))).1; have b2b := ((jv_c (x := (122 : Int64)) (k := 122) (by decide))).2; exact ⟨by omega, by omega⟩
              have hv52_80p : iv v52 97 122 := by have := t70; have b0a := (hv70_80p).1; have b0b := (hv70_80p).2; have b1a := (hv52_58l).1; have b1b := (hv52_58l).2; exact ⟨by omega, by omega⟩
              exact J83 _ j0_Ma0_9 _ _ _ (Nat.lt_succ_self _) (iv_w hq58_52 (by decide)) (hk44 _ _ (by decide) hM0_a0_9) (hk44 _ _ (by decide) hM0_a0_13) (by have b0a := (hmi0).1; have b0b := (hmi0).2; have b1a := (hmi1).1; have b1b := (hmi1).2; have b2a := (hq58_52).1; have b2b := (hq58_52).2; have b3a := (hv5).1; have b3b := (hv5).2; have b4a := (hv18).1; have b4b := (hv18).2; have b5a := (hv52_80p).1; have b5b := (hv52_80p).2; have b6a := (hv70_80p).1; have b6b := (hv70_80p).2; have b7a := (hv77_80l).1; have b7b := (hv77_80l).2; omega) hT hS (lv_sub hl [1, 0] rfl)
          · skip
            have klm1 : (-1 : Int32).toInt = (-1) := by decide
            have f58 := i_eq c58
            have hv52_58l : iv v52 (-1) (-1) := iv_eql hv52 (iv_c (x := (-1 : Int32)) (k := (-1)) (by decide)) c58 (by decide)
            refine lv_aload_n hx hb dX10_advance_61 rfl (lv_at hl 1 rfl) ?_
            refine lv_iconst (v := 0) hx hb dX10_advance_62 (by decide) ?_
            refine ti_put (ty := .int) hx hb hts inlX10 tyX10 tyX10_ok nmX10 hown hK hT hS ha0 rfl rfl rfl rfl 11 (by decide) (hts _ kw_381) (fun _ h9 => h9) rfl rfl (by decide +kernel) rfl rfl ⟨(0 : Int32), rfl, iv_w (iv_c (x := (0 : Int32)) (k := 0) (by decide)) (by decide)⟩ (fun _ _ => trivial) dX10_advance_63 (fun H locs hT hS oq63 he63 hk63 => ?_)
            refine lv_goto (tgt := 239) hx hb dX10_advance_66 (by decide) ?_
            have kl0 : (0 : Int32).toInt = 0 := by decide
            exact ret _ _ _ _ dX10_advance_239 (⟨hT, ⟨m0, (hk63 _ _ (by decide) (hk44 _ _ (by decide) hM0_a0_13)), iv_w hmi0 (by decide), (by have b0a := (hmi0).1; have b0b := (hmi0).2; have b1a := (hmi1).1; have b1b := (hmi1).2; have b2a := (hj0_Ma0_9).1; have b2b := (hj0_Ma0_9).2; have b3a := (hv5).1; have b3b := (hv5).2; have b4a := (hv18).1; have b4b := (hv18).2; have b5a := (hv52_58l).1; have b5b := (hv52_58l).2; omega), j0_Ma0_9, (hk63 _ _ (by decide) (hk44 _ _ (by decide) hM0_a0_9)), iv_w hj0_Ma0_9 (by decide), (by have b0a := (hmi0).1; have b0b := (hmi0).2; have b1a := (hmi1).1; have b1b := (hmi1).2; have b2a := (hj0_Ma0_9).1; have b2b := (hj0_Ma0_9).2; have b3a := (hv5).1; have b3b := (hv5).2; have b4a := (hv18).1; have b4b := (hv18).2; have b5a := (hv52_58l).1; have b5b := (hv52_58l).2; omega), (0 : Int32), he63, iv_w (iv_c (x := (0 : Int32)) (k := 0) (by decide)) (by decide), (by have b0a := (hmi0).1; have b0b := (hmi0).2; have b1a := (hmi1).1; have b1b := (hmi1).2; have b2a := (hj0_Ma0_9).1; have b2b := (hj0_Ma0_9).2; have b3a := (hv5).1; have b3b := (hv5).2; have b4a := (hv18).1; have b4b := (hv18).2; have b5a := (hv52_58l).1; have b5b := (hv52_58l).2; omega)⟩⟩) hS
        · skip
          have kl10 : (10 : Int32).toInt = 10 := by decide
          have f23 := i_eq c23
          have hv18_23l : iv v18 10 10 := iv_eql hv18 (iv_c (x := (10 : Int32)) (k := 10) (by decide)) c23 (by decide)
          have hq23_55 : iv j0_Ma0_9 0 1599 := by have := hp18; have b0a := (hv18_23l).1; have b0b := (hv18_23l).2; have b1a := (hj0_Ma0_9).1; have b1b := (hj0_Ma0_9).2; exact ⟨by omega, by omega⟩
          exact J26  _ _ _  hM0_a0_9 hM0_a0_13 (by have b0a := (hmi0).1; have b0b := (hmi0).2; have b1a := (hmi1).1; have b1b := (hmi1).2; have b2a := (hq23_55).1; have b2b := (hq23_55).2; have b3a := (hv5).1; have b3b := (hv5).2; have b4a := (hv18_23l).1; have b4b := (hv18_23l).2; omega) (by have b0a := (hmi0).1; have b0b := (hmi0).2; have b1a := (hmi1).1; have b1b := (hmi1).2; have b2a := (hq23_55).1; have b2b := (hq23_55).2; have b3a := (hv5).1; have b3b := (hv5).2; have b4a := (hv18_23l).1; have b4b := (hv18_23l).2; omega) hT hS (lv_sub hl [0] rfl)
  exact J0 _ m1 _ _ _ (Nat.lt_succ_self _) (iv_w hmi1 (by decide)) hm1 hm0 (by have b0a := (hmi0).1; have b0b := (hmi0).2; have b1a := (hmi1).1; have b1b := (hmi1).2; omega) hT hS (lv_sub hl [0] rfl)
set_option maxHeartbeats 4000000 in
set_option maxRecDepth 100000 in
theorem t_X10_good (l : Launch) {D : va_G} {c0 : Nat → ClassId} {Y : Nat → Option Nat} {ν : Nat → Nat} {H : Heap} (hT : TI D vwCl (tysOf c0) (RTg ν) Y H) {a0 : Nat} (ha0 : Y a0 = some 10) {m0 : Int32} (hm0 : fi D vwCl a0 10 13 (.int m0) H) (hmi0 : iv m0 0 3) (hU : uq Y) : Met l yX10_good (wz yX10_good cX10_good 1 (some .boolean)) { frames := 0, cells := 0, slots := 0, locals := 0 } (TP D vwCl (tysOf c0) H [.ref a0]) (TQi (fun x H' => H' = H ∧ iv x 0 1 ∧ (((x.toInt = 1 ∧ m0.toInt = 0) ∨ (x.toInt = 0 ∧ ¬ m0.toInt = 0)))) Y []) 0 0 (pW Y []) := by
  refine Met.ofW (cc := cX10_good) (maxL := 1) (ret := (some .boolean)) (by decide) rfl ?_
  intro p e s m args below meth c s₁ B hml hv
  obtain ⟨rfl, rfl, hK⟩ := hv
  have hx := B.exec
  have hb := B.bytes
  have hr := B.returns
  have hts : ∀ w ∈ wq, w.before _ s = true := fun w h => atoms_spec (ws := wz yX10_good cX10_good 1 (some .boolean)) B.pre w (List.mem_cons_of_mem _ h)
  have hown : s.vm.findClass RX10 = some m.cls := findClass_of_methodNamed B.named
  have hlocks := B.notSynchronized
  obtain ⟨R, hR⟩ : ∃ R : Room, R = ({ frames := 0, cells := 0, slots := 0, locals := 0 } : Room) := ⟨_, rfl⟩
  rw [show (headSpec (wz yX10_good cX10_good 1 (some .boolean)) { frames := 0, cells := 0, slots := 0, locals := 0 }).room = R from hR.symm]
  refine ti_mz hx hb hr hlocks (fun Q ret => ?_)
  have hl := lv_entry [.ref a0] (n := 1) (Nat.le_of_ble_eq_true rfl)
  rw [lg_entry_eq]
  generalize (lg_sl [.ref a0] ++ List.replicate (1 - (lg_sl [.ref a0]).length) Slot.unset).toArray = ls at hl ⊢
  have hl : lv_has ls 1 [(0, .ref a0)] := hl
  have hS : va_S (pW Y []) s.heap s.heap [] := va_S.rf
  refine lv_aload_n hx hb dX10_good_0 rfl (lv_at hl 0 rfl) ?_
  refine ti_getE (ci := 10) (v := .int m0) hx hb hts inlX10 hown hK hm0 rfl (by decide) (hts _ kw_380) (fun _ h9 => h9) dX10_good_1 ?_
  refine lv_if_ne (tgt := 11) hx hb dX10_good_4 (by decide) (fun c4 => ?_) (fun c4 => ?_)
  · skip
    have kl0 : (0 : Int32).toInt = 0 := by decide
    have f4 := i_ne c4
    have hm0_4l : iv m0 1 3 := iv_nel hmi0 (iv_c (x := (0 : Int32)) (k := 0) (by decide)) c4 (by decide)
    refine lv_iconst (v := 0) hx hb dX10_good_11 (by decide) ?_
    exact ret _ _ _ _ _ dX10_good_12 (iv_w (iv_c (x := (0 : Int32)) (k := 0) (by decide)) (by decide)) (⟨rfl, iv_w (iv_c (x := (0 : Int32)) (k := 0) (by decide)) (by decide), by have b0a := (hm0_4l).1; have b0b := (hm0_4l).2; omega⟩) hS
  · skip
    have kl0 : (0 : Int32).toInt = 0 := by decide
    have f4 := i_eq c4
    have hm0_4l : iv m0 0 0 := iv_eql hmi0 (iv_c (x := (0 : Int32)) (k := 0) (by decide)) c4 (by decide)
    refine lv_iconst (v := 1) hx hb dX10_good_7 (by decide) ?_
    refine lv_goto (tgt := 12) hx hb dX10_good_8 (by decide) ?_
    have kl1 : (1 : Int32).toInt = 1 := by decide
    exact ret _ _ _ _ _ dX10_good_12 (iv_w (iv_c (x := (1 : Int32)) (k := 1) (by decide)) (by decide)) (⟨rfl, iv_w (iv_c (x := (1 : Int32)) (k := 1) (by decide)) (by decide), by have b0a := (hm0_4l).1; have b0b := (hm0_4l).2; omega⟩) hS
set_option maxHeartbeats 4000000 in
set_option maxRecDepth 100000 in
theorem t_X10_errs (l : Launch) {D : va_G} {c0 : Nat → ClassId} {Y : Nat → Option Nat} {ν : Nat → Nat} {H : Heap} (hT : TI D vwCl (tysOf c0) (RTg ν) Y H) {a0 : Nat} (ha0 : Y a0 = some 10) {x1 : Int32} (hx1 : iv x1 1 3) {m0 : Int32} (hm0 : fi D vwCl a0 10 13 (.int m0) H) (hmi0 : iv m0 0 3) {m1 : Int32} (hm1 : fi D vwCl a0 10 9 (.int m1) H) (hmi1 : iv m1 0 1600) {m2 : Int32} (hm2 : fi D vwCl a0 10 11 (.int m2) H) (hmi2 : iv m2 0 4) {m3 : Int32} (hm3 : fi D vwCl a0 10 12 (.int m3) H) (hmi3 : iv m3 (-2147483648) 99999) (hU : uq Y) : Met l yX10_errs (wz yX10_errs cX10_errs 2 none) { frames := 1, cells := 0, slots := 0, locals := 20 } (TP D vwCl (tysOf c0) H [.ref a0, .int x1]) (TQv (fun H' => TI D vwCl (tysOf c0) (RTg ν) Y H' ∧ (∃ w0 : Int32, fi D vwCl a0 10 13 (.int w0) H' ∧ iv w0 0 3 ∧ (¬ w0.toInt = 0) ∧ ∃ w1 : Int32, fi D vwCl a0 10 9 (.int w1) H' ∧ iv w1 0 1600 ∧ (w1.toInt = m1.toInt) ∧ ∃ w2 : Int32, fi D vwCl a0 10 11 (.int w2) H' ∧ iv w2 0 4 ∧ (w2.toInt = m2.toInt) ∧ ∃ w3 : Int32, fi D vwCl a0 10 12 (.int w3) H' ∧ iv w3 (-2147483648) 99999 ∧ (w3.toInt = m3.toInt))) Y [10]) 0 0 (pW Y [10]) := by
  refine Met.ofW (cc := cX10_errs) (maxL := 2) (ret := none) (by decide) rfl ?_
  intro p e s m args below meth c s₁ B hml hv
  obtain ⟨rfl, rfl, hK⟩ := hv
  have hx := B.exec
  have hb := B.bytes
  have hr := B.returns
  have hts : ∀ w ∈ wq, w.before _ s = true := fun w h => atoms_spec (ws := wz yX10_errs cX10_errs 2 none) B.pre w (List.mem_cons_of_mem _ h)
  have hown : s.vm.findClass RX10 = some m.cls := findClass_of_methodNamed B.named
  have hlocks := B.notSynchronized
  obtain ⟨R, hR⟩ : ∃ R : Room, R = ({ frames := 1, cells := 0, slots := 0, locals := 20 } : Room) := ⟨_, rfl⟩
  rw [show (headSpec (wz yX10_errs cX10_errs 2 none) { frames := 1, cells := 0, slots := 0, locals := 20 }).room = R from hR.symm]
  refine ti_mv hx hb hr hlocks (fun Q ret => ?_)
  have hl := lv_entry [.ref a0, .int x1] (n := 2) (Nat.le_of_ble_eq_true rfl)
  rw [lg_entry_eq]
  generalize (lg_sl [.ref a0, .int x1] ++ List.replicate (2 - (lg_sl [.ref a0, .int x1]).length) Slot.unset).toArray = ls at hl ⊢
  have hl : lv_has ls 2 [(0, .ref a0), (1, .int x1)] := hl
  refine ti_gen (P := fun H => TI D vwCl (tysOf c0) (RTg ν) Y H ∧ fi D vwCl a0 10 13 (.int m0) H ∧ fi D vwCl a0 10 9 (.int m1) H ∧ fi D vwCl a0 10 11 (.int m2) H ∧ fi D vwCl a0 10 12 (.int m3) H) (Y := Y) (ws := [10]) ⟨hT, hm0, hm1, hm2, hm3⟩ (fun H locs hT hS => ?_)
  clear hm0 hm1 hm2 hm3
  obtain ⟨hT, hm0, hm1, hm2, hm3⟩ := hT
  refine lv_aload_n hx hb dX10_errs_0 rfl (lv_at hl 0 rfl) ?_
  refine ti_calli (va_runV (As := []) (rest := []) ⟨hx, hb, hml, hown, hts⟩ (t_X10_good l hT ha0 hm0 (iv_w hmi0 (by decide)) hU) (cwV 0 hts (good_V kw_399 kw_400 kw_401 kw_5 kw_402) rfl rfl rfl (by decide +kernel) ⟨by rw [hR]; decide, by rw [hR]; decide⟩) (ti_preV hK hT ha0 rfl rfl) rfl rfl hl.1 rfl (lv_room (Nat.le_of_ble_eq_true rfl)) dX10_errs_1 ⟨Nat.zero_le _, Nat.zero_le _⟩) hS (pW_sub rfl) (fun v1 H1 locs hB hS _ hk1 => ?_)
  obtain ⟨hH, hv1, hp1⟩ := hB
  rw [hH] at hS ⊢
  refine lv_if_ne (tgt := 8) hx hb dX10_errs_4 (by decide) (fun c4 => ?_) (fun c4 => ?_)
  · skip
    have kl0 : (0 : Int32).toInt = 0 := by decide
    have f4 := i_ne c4
    have hv1_4l : iv v1 1 1 := iv_nel hv1 (iv_c (x := (0 : Int32)) (k := 0) (by decide)) c4 (by decide)
    refine lv_aload_n hx hb dX10_errs_8 rfl (lv_at hl 0 rfl) ?_
    refine lv_iload_n hx hb dX10_errs_9 rfl (lv_at hl 1 rfl) ?_
    refine ti_put (ty := .int) hx hb hts inlX10 tyX10 tyX10_ok nmX10 hown hK hT hS ha0 rfl rfl rfl rfl 13 (by decide) (hts _ kw_380) (fun _ h9 => h9) rfl rfl (by decide +kernel) rfl rfl ⟨x1, rfl, iv_w hx1 (by decide)⟩ (fun _ _ => trivial) dX10_errs_10 (fun H locs hT hS oq10 he10 hk10 => ?_)
    refine lv_aload_n hx hb dX10_errs_13 rfl (lv_at hl 0 rfl) ?_
    refine lv_aload_n hx hb dX10_errs_14 rfl (lv_at hl 0 rfl) ?_
    refine ti_geti hx hb hts inlX10 hown hK hT ha0 rfl rfl rfl 10 (by decide) (hts _ kw_387) (fun _ h9 => h9) rfl dX10_errs_15 (fun v15 hv15 hm15 => ?_)
    refine ti_put (ty := .int) hx hb hts inlX10 tyX10 tyX10_ok nmX10 hown hK hT hS ha0 rfl rfl rfl rfl 14 (by decide) (hts _ kw_136) (fun _ h9 => h9) rfl rfl (by decide +kernel) rfl rfl ⟨v15, rfl, iv_w hv15 (by decide)⟩ (fun _ _ => trivial) dX10_errs_18 (fun H locs hT hS oq18 he18 hk18 => ?_)
    exact ret _ _ _ _ dX10_errs_21 (⟨hT, ⟨x1, (hk18 _ _ (by decide) he10), iv_w hx1 (by decide), (by have b0a := (hx1).1; have b0b := (hx1).2; have b1a := (hmi0).1; have b1b := (hmi0).2; have b2a := (hmi1).1; have b2b := (hmi1).2; have b3a := (hmi2).1; have b3b := (hmi2).2; have b4a := (hmi3).1; have b4b := (hmi3).2; have b5a := (hv1_4l).1; have b5b := (hv1_4l).2; have b6a := (hv15).1; have b6b := (hv15).2; omega), m1, (hk18 _ _ (by decide) (hk10 _ _ (by decide) hm1)), iv_w hmi1 (by decide), (by have b0a := (hx1).1; have b0b := (hx1).2; have b1a := (hmi0).1; have b1b := (hmi0).2; have b2a := (hmi1).1; have b2b := (hmi1).2; have b3a := (hmi2).1; have b3b := (hmi2).2; have b4a := (hmi3).1; have b4b := (hmi3).2; have b5a := (hv1_4l).1; have b5b := (hv1_4l).2; have b6a := (hv15).1; have b6b := (hv15).2; omega), m2, (hk18 _ _ (by decide) (hk10 _ _ (by decide) hm2)), iv_w hmi2 (by decide), (by have b0a := (hx1).1; have b0b := (hx1).2; have b1a := (hmi0).1; have b1b := (hmi0).2; have b2a := (hmi1).1; have b2b := (hmi1).2; have b3a := (hmi2).1; have b3b := (hmi2).2; have b4a := (hmi3).1; have b4b := (hmi3).2; have b5a := (hv1_4l).1; have b5b := (hv1_4l).2; have b6a := (hv15).1; have b6b := (hv15).2; omega), m3, (hk18 _ _ (by decide) (hk10 _ _ (by decide) hm3)), iv_w hmi3 (by decide), (by have b0a := (hx1).1; have b0b := (hx1).2; have b1a := (hmi0).1; have b1b := (hmi0).2; have b2a := (hmi1).1; have b2b := (hmi1).2; have b3a := (hmi2).1; have b3b := (hmi2).2; have b4a := (hmi3).1; have b4b := (hmi3).2; have b5a := (hv1_4l).1; have b5b := (hv1_4l).2; have b6a := (hv15).1; have b6b := (hv15).2; omega)⟩⟩) hS
  · skip
    have kl0 : (0 : Int32).toInt = 0 := by decide
    have f4 := i_eq c4
    have hv1_4l : iv v1 0 0 := iv_eql hv1 (iv_c (x := (0 : Int32)) (k := 0) (by decide)) c4 (by decide)
    exact ret _ _ _ _ dX10_errs_7 (⟨hT, ⟨m0, hm0, iv_w hmi0 (by decide), (by have b0a := (hx1).1; have b0b := (hx1).2; have b1a := (hmi0).1; have b1b := (hmi0).2; have b2a := (hmi1).1; have b2b := (hmi1).2; have b3a := (hmi2).1; have b3b := (hmi2).2; have b4a := (hmi3).1; have b4b := (hmi3).2; have b5a := (hv1_4l).1; have b5b := (hv1_4l).2; omega), m1, hm1, iv_w hmi1 (by decide), (by have b0a := (hx1).1; have b0b := (hx1).2; have b1a := (hmi0).1; have b1b := (hmi0).2; have b2a := (hmi1).1; have b2b := (hmi1).2; have b3a := (hmi2).1; have b3b := (hmi2).2; have b4a := (hmi3).1; have b4b := (hmi3).2; have b5a := (hv1_4l).1; have b5b := (hv1_4l).2; omega), m2, hm2, iv_w hmi2 (by decide), (by have b0a := (hx1).1; have b0b := (hx1).2; have b1a := (hmi0).1; have b1b := (hmi0).2; have b2a := (hmi1).1; have b2b := (hmi1).2; have b3a := (hmi2).1; have b3b := (hmi2).2; have b4a := (hmi3).1; have b4b := (hmi3).2; have b5a := (hv1_4l).1; have b5b := (hv1_4l).2; omega), m3, hm3, iv_w hmi3 (by decide), (by have b0a := (hx1).1; have b0b := (hx1).2; have b1a := (hmi0).1; have b1b := (hmi0).2; have b2a := (hmi1).1; have b2b := (hmi1).2; have b3a := (hmi2).1; have b3b := (hmi2).2; have b4a := (hmi3).1; have b4b := (hmi3).2; have b5a := (hv1_4l).1; have b5b := (hv1_4l).2; omega)⟩⟩) hS
set_option maxHeartbeats 4000000 in
set_option maxRecDepth 100000 in
theorem t_X10_number (l : Launch) {D : va_G} {c0 : Nat → ClassId} {Y : Nat → Option Nat} {ν : Nat → Nat} {H : Heap} (hT : TI D vwCl (tysOf c0) (RTg ν) Y H) {a0 : Nat} (ha0 : Y a0 = some 10) {x1 : Int32} (hx1 : iv x1 0 5) {x2 : Int32} (hx2 : iv x2 (-2147483648) 100000) {m0 : Int32} (hm0 : fi D vwCl a0 10 13 (.int m0) H) (hmi0 : iv m0 0 3) {m1 : Int32} (hm1 : fi D vwCl a0 10 9 (.int m1) H) (hmi1 : iv m1 0 1600) {m2 : Int32} (hm2 : fi D vwCl a0 10 11 (.int m2) H) (hmi2 : iv m2 0 4) {m3 : Int32} (hm3 : fi D vwCl a0 10 12 (.int m3) H) (hmi3 : iv m3 (-2147483648) 99999) (hU : uq Y) : Met l yX10_number (wz yX10_number cX10_number 4 (some .int)) { frames := 2, cells := 0, slots := 0, locals := 81 } (TP D vwCl (tysOf c0) H [.ref a0, .int x1, .int x2]) (TQi (fun x H' => TI D vwCl (tysOf c0) (RTg ν) Y H' ∧ iv x (-2147483648) 99999 ∧ (∃ w0 : Int32, fi D vwCl a0 10 13 (.int w0) H' ∧ iv w0 0 3 ∧ ((¬ m0.toInt = 0 → ¬ w0.toInt = 0) ∧ (x.toInt = 0 ∨ (x1.toInt ≤ x.toInt ∧ x.toInt ≤ x2.toInt)) ∧ (w0.toInt = 0 → x1.toInt ≤ x.toInt ∧ x.toInt ≤ x2.toInt)) ∧ ∃ w1 : Int32, fi D vwCl a0 10 9 (.int w1) H' ∧ iv w1 0 1600 ∧ (m1.toInt ≤ w1.toInt) ∧ ∃ w2 : Int32, fi D vwCl a0 10 11 (.int w2) H' ∧ iv w2 0 4 ∧ (¬ w0.toInt = 0 ∨ m1.toInt < w1.toInt ∨ ¬ w2.toInt = 3))) Y [10]) 0 0 (pW Y [10]) := by
  refine Met.ofW (cc := cX10_number) (maxL := 4) (ret := (some .int)) (by decide) rfl ?_
  intro p e s m args below meth c s₁ B hml hv
  obtain ⟨rfl, rfl, hK⟩ := hv
  have hx := B.exec
  have hb := B.bytes
  have hr := B.returns
  have hts : ∀ w ∈ wq, w.before _ s = true := fun w h => atoms_spec (ws := wz yX10_number cX10_number 4 (some .int)) B.pre w (List.mem_cons_of_mem _ h)
  have hown : s.vm.findClass RX10 = some m.cls := findClass_of_methodNamed B.named
  have hlocks := B.notSynchronized
  obtain ⟨R, hR⟩ : ∃ R : Room, R = ({ frames := 2, cells := 0, slots := 0, locals := 81 } : Room) := ⟨_, rfl⟩
  rw [show (headSpec (wz yX10_number cX10_number 4 (some .int)) { frames := 2, cells := 0, slots := 0, locals := 81 }).room = R from hR.symm]
  refine ti_mi hx hb hr hlocks (fun Q ret => ?_)
  have hl := lv_entry [.ref a0, .int x1, .int x2] (n := 4) (Nat.le_of_ble_eq_true rfl)
  rw [lg_entry_eq]
  generalize (lg_sl [.ref a0, .int x1, .int x2] ++ List.replicate (4 - (lg_sl [.ref a0, .int x1, .int x2]).length) Slot.unset).toArray = ls at hl ⊢
  have hl : lv_has ls 4 [(0, .ref a0), (1, .int x1), (2, .int x2)] := hl
  refine ti_gen (P := fun H => TI D vwCl (tysOf c0) (RTg ν) Y H ∧ fi D vwCl a0 10 13 (.int m0) H ∧ fi D vwCl a0 10 9 (.int m1) H ∧ fi D vwCl a0 10 11 (.int m2) H ∧ fi D vwCl a0 10 12 (.int m3) H) (Y := Y) (ws := [10]) ⟨hT, hm0, hm1, hm2, hm3⟩ (fun H locs hT hS => ?_)
  clear hm0 hm1 hm2 hm3
  obtain ⟨hT, hm0, hm1, hm2, hm3⟩ := hT
  refine lv_aload_n hx hb dX10_number_0 rfl (lv_at hl 0 rfl) ?_
  refine ti_calli (va_runV (As := []) (rest := []) ⟨hx, hb, hml, hown, hts⟩ (t_X10_good l hT ha0 hm0 (iv_w hmi0 (by decide)) hU) (cwV 0 hts (good_V kw_399 kw_400 kw_401 kw_5 kw_402) rfl rfl rfl (by decide +kernel) ⟨by rw [hR]; decide, by rw [hR]; decide⟩) (ti_preV hK hT ha0 rfl rfl) rfl rfl hl.1 rfl (lv_room (Nat.le_of_ble_eq_true rfl)) dX10_number_1 ⟨Nat.zero_le _, Nat.zero_le _⟩) hS (pW_sub rfl) (fun v1 H1 locs hB hS _ hk1 => ?_)
  obtain ⟨hH, hv1, hp1⟩ := hB
  rw [hH] at hS ⊢
  have J20 : ∀ (j20_Ma0_9 : Int32) (j20_Ma0_11 : Int32) (j20_Ma0_13 : Int32) (j20_Ma0_12 : Int32) (H : Heap) (locs : List Loc) (ls : Array Slot), iv j20_Ma0_9 0 1600 → fi D vwCl a0 10 9 (.int j20_Ma0_9) H → iv j20_Ma0_11 0 4 → fi D vwCl a0 10 11 (.int j20_Ma0_11) H → iv j20_Ma0_13 0 3 → fi D vwCl a0 10 13 (.int j20_Ma0_13) H → iv j20_Ma0_12 (-2147483648) 99999 → fi D vwCl a0 10 12 (.int j20_Ma0_12) H → (m1.toInt ≤ j20_Ma0_9.toInt) → (¬ m0.toInt = 0 → ¬ j20_Ma0_13.toInt = 0) → TI D vwCl (tysOf c0) (RTg ν) Y H → va_S (pW Y [10]) s.heap H locs → lv_has ls 4 [(0, .ref a0), (1, .int x1), (2, .int x2)] → W p l e R s m ([.ref a0, .int x1, .int x2] : List Value).toArray below meth c H locs 0 0 Q (F0 m 20 ls []) := by
    intro j20_Ma0_9 j20_Ma0_11 j20_Ma0_13 j20_Ma0_12 H locs ls hj20_Ma0_9 hM20_a0_9 hj20_Ma0_11 hM20_a0_11 hj20_Ma0_13 hM20_a0_13 hj20_Ma0_12 hM20_a0_12 hT20_0 hT20_1 hT hS hl
    refine lv_aload_n hx hb dX10_number_20 rfl (lv_at hl 0 rfl) ?_
    refine ti_calli (va_runV (As := []) (rest := []) ⟨hx, hb, hml, hown, hts⟩ (t_X10_good l hT ha0 hM20_a0_13 (iv_w hj20_Ma0_13 (by decide)) hU) (cwV 0 hts (good_V kw_399 kw_400 kw_401 kw_5 kw_402) rfl rfl rfl (by decide +kernel) ⟨by rw [hR]; decide, by rw [hR]; decide⟩) (ti_preV hK hT ha0 rfl rfl) rfl rfl hl.1 rfl (lv_room (Nat.le_of_ble_eq_true rfl)) dX10_number_21 ⟨Nat.zero_le _, Nat.zero_le _⟩) hS (pW_sub rfl) (fun v21 H1 locs hB hS _ hk21 => ?_)
    obtain ⟨hH, hv21, hp21⟩ := hB
    rw [hH] at hS ⊢
    have J47 : ∀ (j47_Ma0_9 : Int32) (j47_Ma0_11 : Int32) (j47_Ma0_13 : Int32) (j47_Ma0_12 : Int32) (H : Heap) (locs : List Loc) (ls : Array Slot), iv j47_Ma0_9 0 1600 → fi D vwCl a0 10 9 (.int j47_Ma0_9) H → iv j47_Ma0_11 0 4 → fi D vwCl a0 10 11 (.int j47_Ma0_11) H → iv j47_Ma0_13 0 3 → fi D vwCl a0 10 13 (.int j47_Ma0_13) H → iv j47_Ma0_12 (-2147483648) 99999 → fi D vwCl a0 10 12 (.int j47_Ma0_12) H → (j47_Ma0_13.toInt = 0 → x1.toInt ≤ j47_Ma0_12.toInt ∧ j47_Ma0_12.toInt ≤ x2.toInt) → (m1.toInt ≤ j47_Ma0_9.toInt) → (¬ m0.toInt = 0 → ¬ j47_Ma0_13.toInt = 0) → TI D vwCl (tysOf c0) (RTg ν) Y H → va_S (pW Y [10]) s.heap H locs → lv_has ls 4 [(0, .ref a0), (1, .int x1), (2, .int x2)] → W p l e R s m ([.ref a0, .int x1, .int x2] : List Value).toArray below meth c H locs 0 0 Q (F0 m 47 ls []) := by
      intro j47_Ma0_9 j47_Ma0_11 j47_Ma0_13 j47_Ma0_12 H locs ls hj47_Ma0_9 hM47_a0_9 hj47_Ma0_11 hM47_a0_11 hj47_Ma0_13 hM47_a0_13 hj47_Ma0_12 hM47_a0_12 hT47_0 hT47_1 hT47_2 hT hS hl
      refine lv_aload_n hx hb dX10_number_47 rfl (lv_at hl 0 rfl) ?_
      refine ti_calli (va_runV (As := []) (rest := []) ⟨hx, hb, hml, hown, hts⟩ (t_X10_good l hT ha0 hM47_a0_13 (iv_w hj47_Ma0_13 (by decide)) hU) (cwV 0 hts (good_V kw_399 kw_400 kw_401 kw_5 kw_402) rfl rfl rfl (by decide +kernel) ⟨by rw [hR]; decide, by rw [hR]; decide⟩) (ti_preV hK hT ha0 rfl rfl) rfl rfl hl.1 rfl (lv_room (Nat.le_of_ble_eq_true rfl)) dX10_number_48 ⟨Nat.zero_le _, Nat.zero_le _⟩) hS (pW_sub rfl) (fun v48 H1 locs hB hS _ hk48 => ?_)
      obtain ⟨hH, hv48, hp48⟩ := hB
      rw [hH] at hS ⊢
      refine lv_if_ne (tgt := 56) hx hb dX10_number_51 (by decide) (fun c51 => ?_) (fun c51 => ?_)
      · skip
        have kl0 : (0 : Int32).toInt = 0 := by decide
        have f51 := i_ne c51
        have hv48_51l : iv v48 1 1 := iv_nel hv48 (iv_c (x := (0 : Int32)) (k := 0) (by decide)) c51 (by decide)
        refine lv_aload_n hx hb dX10_number_56 rfl (lv_at hl 0 rfl) ?_
        refine ti_getE (ci := 10) (v := .int j47_Ma0_12) hx hb hts inlX10 hown hK hM47_a0_12 rfl (by decide) (hts _ kw_392) (fun _ h9 => h9) dX10_number_57 ?_
        refine lv_istore_n (lv' := [(3, .int j47_Ma0_12), (0, .ref a0), (1, .int x1), (2, .int x2)]) hx hb dX10_number_60 rfl hl (by decide) rfl (fun ls hl => ?_)
        refine lv_aload_n hx hb dX10_number_61 rfl (lv_at hl 1 rfl) ?_
        refine ti_callv (va_runV (As := []) (rest := []) ⟨hx, hb, hml, hown, hts⟩ (t_X10_advance l hT ha0 hM47_a0_13 (iv_w hj47_Ma0_13 (by decide)) hM47_a0_9 (iv_w hj47_Ma0_9 (by decide)) hU) (cwV 0 hts (good_V kw_383 kw_384 kw_385 kw_5 kw_386) rfl rfl rfl (by decide +kernel) ⟨by rw [hR]; decide, by rw [hR]; decide⟩) (ti_preV hK hT ha0 rfl rfl) rfl rfl hl.1 rfl (lv_room (Nat.le_of_ble_eq_true rfl)) dX10_number_62 ⟨Nat.zero_le _, Nat.zero_le _⟩) hS (pW_sub rfl) (fun H locs hB hS _ hk62 => ?_)
        obtain ⟨hT, ⟨w62_0, hw62_0, hwi62_0, hwp62_0, w62_1, hw62_1, hwi62_1, hwp62_1, w62_2, hw62_2, hwi62_2, hwp62_2⟩⟩ := hB
        refine lv_iload_n hx hb dX10_number_65 rfl (lv_at hl 0 rfl) ?_
        exact ret _ _ _ _ _ dX10_number_66 (⟨hT, iv_w hj47_Ma0_12 (by decide), ⟨w62_0, hw62_0, iv_w hwi62_0 (by decide), (by have b0a := (hx1).1; have b0b := (hx1).2; have b1a := (hx2).1; have b1b := (hx2).2; have b2a := (hmi0).1; have b2b := (hmi0).2; have b3a := (hmi1).1; have b3b := (hmi1).2; have b4a := (hmi2).1; have b4b := (hmi2).2; have b5a := (hmi3).1; have b5b := (hmi3).2; have b6a := (hv1).1; have b6b := (hv1).2; have b7a := (hj20_Ma0_9).1; have b7b := (hj20_Ma0_9).2; have b8a := (hj20_Ma0_11).1; have b8b := (hj20_Ma0_11).2; have b9a := (hj20_Ma0_13).1; have b9b := (hj20_Ma0_13).2; have b10a := (hj20_Ma0_12).1; have b10b := (hj20_Ma0_12).2; have b11a := (hv21).1; have b11b := (hv21).2; have b12a := (hj47_Ma0_9).1; have b12b := (hj47_Ma0_9).2; have b13a := (hj47_Ma0_11).1; have b13b := (hj47_Ma0_11).2; have b14a := (hj47_Ma0_13).1; have b14b := (hj47_Ma0_13).2; have b15a := (hj47_Ma0_12).1; have b15b := (hj47_Ma0_12).2; have b16a := (hv48_51l).1; have b16b := (hv48_51l).2; have b17a := (hwi62_0).1; have b17b := (hwi62_0).2; have b18a := (hwi62_1).1; have b18b := (hwi62_1).2; have b19a := (hwi62_2).1; have b19b := (hwi62_2).2; omega), w62_1, hw62_1, iv_w hwi62_1 (by decide), (by have b0a := (hx1).1; have b0b := (hx1).2; have b1a := (hx2).1; have b1b := (hx2).2; have b2a := (hmi0).1; have b2b := (hmi0).2; have b3a := (hmi1).1; have b3b := (hmi1).2; have b4a := (hmi2).1; have b4b := (hmi2).2; have b5a := (hmi3).1; have b5b := (hmi3).2; have b6a := (hv1).1; have b6b := (hv1).2; have b7a := (hj20_Ma0_9).1; have b7b := (hj20_Ma0_9).2; have b8a := (hj20_Ma0_11).1; have b8b := (hj20_Ma0_11).2; have b9a := (hj20_Ma0_13).1; have b9b := (hj20_Ma0_13).2; have b10a := (hj20_Ma0_12).1; have b10b := (hj20_Ma0_12).2; have b11a := (hv21).1; have b11b := (hv21).2; have b12a := (hj47_Ma0_9).1; have b12b := (hj47_Ma0_9).2; have b13a := (hj47_Ma0_11).1; have b13b := (hj47_Ma0_11).2; have b14a := (hj47_Ma0_13).1; have b14b := (hj47_Ma0_13).2; have b15a := (hj47_Ma0_12).1; have b15b := (hj47_Ma0_12).2; have b16a := (hv48_51l).1; have b16b := (hv48_51l).2; have b17a := (hwi62_0).1; have b17b := (hwi62_0).2; have b18a := (hwi62_1).1; have b18b := (hwi62_1).2; have b19a := (hwi62_2).1; have b19b := (hwi62_2).2; omega), w62_2, hw62_2, iv_w hwi62_2 (by decide), (by have b0a := (hx1).1; have b0b := (hx1).2; have b1a := (hx2).1; have b1b := (hx2).2; have b2a := (hmi0).1; have b2b := (hmi0).2; have b3a := (hmi1).1; have b3b := (hmi1).2; have b4a := (hmi2).1; have b4b := (hmi2).2; have b5a := (hmi3).1; have b5b := (hmi3).2; have b6a := (hv1).1; have b6b := (hv1).2; have b7a := (hj20_Ma0_9).1; have b7b := (hj20_Ma0_9).2; have b8a := (hj20_Ma0_11).1; have b8b := (hj20_Ma0_11).2; have b9a := (hj20_Ma0_13).1; have b9b := (hj20_Ma0_13).2; have b10a := (hj20_Ma0_12).1; have b10b := (hj20_Ma0_12).2; have b11a := (hv21).1; have b11b := (hv21).2; have b12a := (hj47_Ma0_9).1; have b12b := (hj47_Ma0_9).2; have b13a := (hj47_Ma0_11).1; have b13b := (hj47_Ma0_11).2; have b14a := (hj47_Ma0_13).1; have b14b := (hj47_Ma0_13).2; have b15a := (hj47_Ma0_12).1; have b15b := (hj47_Ma0_12).2; have b16a := (hv48_51l).1; have b16b := (hv48_51l).2; have b17a := (hwi62_0).1; have b17b := (hwi62_0).2; have b18a := (hwi62_1).1; have b18b := (hwi62_1).2; have b19a := (hwi62_2).1; have b19b := (hwi62_2).2; omega)⟩⟩) hS
      · skip
        have kl0 : (0 : Int32).toInt = 0 := by decide
        have f51 := i_eq c51
        have hv48_51l : iv v48 0 0 := iv_eql hv48 (iv_c (x := (0 : Int32)) (k := 0) (by decide)) c51 (by decide)
        refine lv_iconst (v := 0) hx hb dX10_number_54 (by decide) ?_
        exact ret _ _ _ _ _ dX10_number_55 (⟨hT, iv_w (iv_c (x := (0 : Int32)) (k := 0) (by decide)) (by decide), ⟨j47_Ma0_13, hM47_a0_13, iv_w hj47_Ma0_13 (by decide), (by have b0a := (hx1).1; have b0b := (hx1).2; have b1a := (hx2).1; have b1b := (hx2).2; have b2a := (hmi0).1; have b2b := (hmi0).2; have b3a := (hmi1).1; have b3b := (hmi1).2; have b4a := (hmi2).1; have b4b := (hmi2).2; have b5a := (hmi3).1; have b5b := (hmi3).2; have b6a := (hv1).1; have b6b := (hv1).2; have b7a := (hj20_Ma0_9).1; have b7b := (hj20_Ma0_9).2; have b8a := (hj20_Ma0_11).1; have b8b := (hj20_Ma0_11).2; have b9a := (hj20_Ma0_13).1; have b9b := (hj20_Ma0_13).2; have b10a := (hj20_Ma0_12).1; have b10b := (hj20_Ma0_12).2; have b11a := (hv21).1; have b11b := (hv21).2; have b12a := (hj47_Ma0_9).1; have b12b := (hj47_Ma0_9).2; have b13a := (hj47_Ma0_11).1; have b13b := (hj47_Ma0_11).2; have b14a := (hj47_Ma0_13).1; have b14b := (hj47_Ma0_13).2; have b15a := (hj47_Ma0_12).1; have b15b := (hj47_Ma0_12).2; have b16a := (hv48_51l).1; have b16b := (hv48_51l).2; omega), j47_Ma0_9, hM47_a0_9, iv_w hj47_Ma0_9 (by decide), (by have b0a := (hx1).1; have b0b := (hx1).2; have b1a := (hx2).1; have b1b := (hx2).2; have b2a := (hmi0).1; have b2b := (hmi0).2; have b3a := (hmi1).1; have b3b := (hmi1).2; have b4a := (hmi2).1; have b4b := (hmi2).2; have b5a := (hmi3).1; have b5b := (hmi3).2; have b6a := (hv1).1; have b6b := (hv1).2; have b7a := (hj20_Ma0_9).1; have b7b := (hj20_Ma0_9).2; have b8a := (hj20_Ma0_11).1; have b8b := (hj20_Ma0_11).2; have b9a := (hj20_Ma0_13).1; have b9b := (hj20_Ma0_13).2; have b10a := (hj20_Ma0_12).1; have b10b := (hj20_Ma0_12).2; have b11a := (hv21).1; have b11b := (hv21).2; have b12a := (hj47_Ma0_9).1; have b12b := (hj47_Ma0_9).2; have b13a := (hj47_Ma0_11).1; have b13b := (hj47_Ma0_11).2; have b14a := (hj47_Ma0_13).1; have b14b := (hj47_Ma0_13).2; have b15a := (hj47_Ma0_12).1; have b15b := (hj47_Ma0_12).2; have b16a := (hv48_51l).1; have b16b := (hv48_51l).2; omega), j47_Ma0_11, hM47_a0_11, iv_w hj47_Ma0_11 (by decide), (by have b0a := (hx1).1; have b0b := (hx1).2; have b1a := (hx2).1; have b1b := (hx2).2; have b2a := (hmi0).1; have b2b := (hmi0).2; have b3a := (hmi1).1; have b3b := (hmi1).2; have b4a := (hmi2).1; have b4b := (hmi2).2; have b5a := (hmi3).1; have b5b := (hmi3).2; have b6a := (hv1).1; have b6b := (hv1).2; have b7a := (hj20_Ma0_9).1; have b7b := (hj20_Ma0_9).2; have b8a := (hj20_Ma0_11).1; have b8b := (hj20_Ma0_11).2; have b9a := (hj20_Ma0_13).1; have b9b := (hj20_Ma0_13).2; have b10a := (hj20_Ma0_12).1; have b10b := (hj20_Ma0_12).2; have b11a := (hv21).1; have b11b := (hv21).2; have b12a := (hj47_Ma0_9).1; have b12b := (hj47_Ma0_9).2; have b13a := (hj47_Ma0_11).1; have b13b := (hj47_Ma0_11).2; have b14a := (hj47_Ma0_13).1; have b14b := (hj47_Ma0_13).2; have b15a := (hj47_Ma0_12).1; have b15b := (hj47_Ma0_12).2; have b16a := (hv48_51l).1; have b16b := (hv48_51l).2; omega)⟩⟩) hS
    refine lv_if_eq (tgt := 47) hx hb dX10_number_24 (by decide) (fun c24 => ?_) (fun c24 => ?_)
    · skip
      have kl0 : (0 : Int32).toInt = 0 := by decide
      have f24 := i_eq c24
      have hv21_24l : iv v21 0 0 := iv_eql hv21 (iv_c (x := (0 : Int32)) (k := 0) (by decide)) c24 (by decide)
      exact J47 j20_Ma0_9 j20_Ma0_11 j20_Ma0_13 j20_Ma0_12 _ _ _  (iv_w hj20_Ma0_9 (by decide)) hM20_a0_9 (iv_w hj20_Ma0_11 (by decide)) hM20_a0_11 (iv_w hj20_Ma0_13 (by decide)) hM20_a0_13 (iv_w hj20_Ma0_12 (by decide)) hM20_a0_12 (by have b0a := (hx1).1; have b0b := (hx1).2; have b1a := (hx2).1; have b1b := (hx2).2; have b2a := (hmi0).1; have b2b := (hmi0).2; have b3a := (hmi1).1; have b3b := (hmi1).2; have b4a := (hmi2).1; have b4b := (hmi2).2; have b5a := (hmi3).1; have b5b := (hmi3).2; have b6a := (hv1).1; have b6b := (hv1).2; have b7a := (hj20_Ma0_9).1; have b7b := (hj20_Ma0_9).2; have b8a := (hj20_Ma0_11).1; have b8b := (hj20_Ma0_11).2; have b9a := (hj20_Ma0_13).1; have b9b := (hj20_Ma0_13).2; have b10a := (hj20_Ma0_12).1; have b10b := (hj20_Ma0_12).2; have b11a := (hv21_24l).1; have b11b := (hv21_24l).2; omega) (by have b0a := (hx1).1; have b0b := (hx1).2; have b1a := (hx2).1; have b1b := (hx2).2; have b2a := (hmi0).1; have b2b := (hmi0).2; have b3a := (hmi1).1; have b3b := (hmi1).2; have b4a := (hmi2).1; have b4b := (hmi2).2; have b5a := (hmi3).1; have b5b := (hmi3).2; have b6a := (hv1).1; have b6b := (hv1).2; have b7a := (hj20_Ma0_9).1; have b7b := (hj20_Ma0_9).2; have b8a := (hj20_Ma0_11).1; have b8b := (hj20_Ma0_11).2; have b9a := (hj20_Ma0_13).1; have b9b := (hj20_Ma0_13).2; have b10a := (hj20_Ma0_12).1; have b10b := (hj20_Ma0_12).2; have b11a := (hv21_24l).1; have b11b := (hv21_24l).2; omega) (by have b0a := (hx1).1; have b0b := (hx1).2; have b1a := (hx2).1; have b1b := (hx2).2; have b2a := (hmi0).1; have b2b := (hmi0).2; have b3a := (hmi1).1; have b3b := (hmi1).2; have b4a := (hmi2).1; have b4b := (hmi2).2; have b5a := (hmi3).1; have b5b := (hmi3).2; have b6a := (hv1).1; have b6b := (hv1).2; have b7a := (hj20_Ma0_9).1; have b7b := (hj20_Ma0_9).2; have b8a := (hj20_Ma0_11).1; have b8b := (hj20_Ma0_11).2; have b9a := (hj20_Ma0_13).1; have b9b := (hj20_Ma0_13).2; have b10a := (hj20_Ma0_12).1; have b10b := (hj20_Ma0_12).2; have b11a := (hv21_24l).1; have b11b := (hv21_24l).2; omega) hT hS (lv_sub hl [0, 1, 2] rfl)
    · skip
      have kl0 : (0 : Int32).toInt = 0 := by decide
      have f24 := i_ne c24
      have hv21_24l : iv v21 1 1 := iv_nel hv21 (iv_c (x := (0 : Int32)) (k := 0) (by decide)) c24 (by decide)
      refine lv_aload_n hx hb dX10_number_27 rfl (lv_at hl 0 rfl) ?_
      refine ti_getE (ci := 10) (v := .int j20_Ma0_12) hx hb hts inlX10 hown hK hM20_a0_12 rfl (by decide) (hts _ kw_392) (fun _ h9 => h9) dX10_number_28 ?_
      refine lv_i2l hx hb dX10_number_31 rfl ?_
      refine lv_topl (fun v31 e31 => ?_)
      have hv31 : jv v31 (-2147483648) 99999 := by rw [e31]; exact jv_i hj20_Ma0_12
      have t31 : v31.toInt = j20_Ma0_12.toInt := by rw [e31]; exact jv_e _
      refine lv_iload_n hx hb dX10_number_32 rfl (lv_at hl 1 rfl) ?_
      refine lv_i2l hx hb dX10_number_33 rfl ?_
      refine lv_topl (fun v33 e33 => ?_)
      have hv33 : jv v33 0 5 := by rw [e33]; exact jv_i hx1
      have t33 : v33.toInt = x1.toInt := by rw [e33]; exact jv_e _
      refine lv_iload_n hx hb dX10_number_34 rfl (lv_at hl 2 rfl) ?_
      refine lv_i2l hx hb dX10_number_35 rfl ?_
      refine lv_topl (fun v35 e35 => ?_)
      have hv35 : jv v35 (-2147483648) 100000 := by rw [e35]; exact jv_i hx2
      have t35 : v35.toInt = x2.toInt := by rw [e35]; exact jv_e _
      refine ti_calli (va_runS (As := [.long v31, .long v33, .long v35]) (rest := []) ⟨hx, hb, hml, hown, hts⟩ (t_X10_in l hT (jv_w hv31 (by decide)) (jv_w hv33 (by decide)) (jv_w hv35 (by decide))) (cwS 3 hts (good_S kw_181 kw_182 kw_5 kw_183) rfl rfl rfl (by decide +kernel) ⟨by rw [hR]; decide, by rw [hR]; decide⟩) (ti_preS hK) rfl rfl hl.1 rfl (lv_room (Nat.le_of_ble_eq_true rfl)) dX10_number_36 ⟨Nat.zero_le _, Nat.zero_le _⟩) hS (pW_sub rfl) (fun v36 H1 locs hB hS _ hk36 => ?_)
      obtain ⟨hH, hv36, hp36⟩ := hB
      rw [hH] at hS ⊢
      refine lv_if_ne (tgt := 47) hx hb dX10_number_39 (by decide) (fun c39 => ?_) (fun c39 => ?_)
      · skip
        have f39 := i_ne c39
        have hv36_39l : iv v36 1 1 := iv_nel hv36 (iv_c (x := (0 : Int32)) (k := 0) (by decide)) c39 (by decide)
        have hv31_39p : jv v31 0 99999 := by have b0a := (hv31).1; have b0b := (hv31).2; have b1a := (hv33).1; have b1b := (hv33).2; have b2a := (hv35).1; have b2b := (hv35).2; exact ⟨by omega, by omega⟩
        have hj20_Ma0_12_39p : iv j20_Ma0_12 0 99999 := by have := t31; have b0a := (hv31_39p).1; have b0b := (hv31_39p).2; have b1a := (hj20_Ma0_12).1; have b1b := (hj20_Ma0_12).2; exact ⟨by omega, by omega⟩
        exact J47 j20_Ma0_9 j20_Ma0_11 j20_Ma0_13 j20_Ma0_12 _ _ _  (iv_w hj20_Ma0_9 (by decide)) hM20_a0_9 (iv_w hj20_Ma0_11 (by decide)) hM20_a0_11 (iv_w hj20_Ma0_13 (by decide)) hM20_a0_13 (iv_w hj20_Ma0_12_39p (by decide)) hM20_a0_12 (by have b0a := (hx1).1; have b0b := (hx1).2; have b1a := (hx2).1; have b1b := (hx2).2; have b2a := (hmi0).1; have b2b := (hmi0).2; have b3a := (hmi1).1; have b3b := (hmi1).2; have b4a := (hmi2).1; have b4b := (hmi2).2; have b5a := (hmi3).1; have b5b := (hmi3).2; have b6a := (hv1).1; have b6b := (hv1).2; have b7a := (hj20_Ma0_9).1; have b7b := (hj20_Ma0_9).2; have b8a := (hj20_Ma0_11).1; have b8b := (hj20_Ma0_11).2; have b9a := (hj20_Ma0_13).1; have b9b := (hj20_Ma0_13).2; have b10a := (hj20_Ma0_12_39p).1; have b10b := (hj20_Ma0_12_39p).2; have b11a := (hv21_24l).1; have b11b := (hv21_24l).2; have b12a := (hv31_39p).1; have b12b := (hv31_39p).2; have b13a := (hv33).1; have b13b := (hv33).2; have b14a := (hv35).1; have b14b := (hv35).2; have b15a := (hv36_39l).1; have b15b := (hv36_39l).2; omega) (by have b0a := (hx1).1; have b0b := (hx1).2; have b1a := (hx2).1; have b1b := (hx2).2; have b2a := (hmi0).1; have b2b := (hmi0).2; have b3a := (hmi1).1; have b3b := (hmi1).2; have b4a := (hmi2).1; have b4b := (hmi2).2; have b5a := (hmi3).1; have b5b := (hmi3).2; have b6a := (hv1).1; have b6b := (hv1).2; have b7a := (hj20_Ma0_9).1; have b7b := (hj20_Ma0_9).2; have b8a := (hj20_Ma0_11).1; have b8b := (hj20_Ma0_11).2; have b9a := (hj20_Ma0_13).1; have b9b := (hj20_Ma0_13).2; have b10a := (hj20_Ma0_12_39p).1; have b10b := (hj20_Ma0_12_39p).2; have b11a := (hv21_24l).1; have b11b := (hv21_24l).2; have b12a := (hv31_39p).1; have b12b := (hv31_39p).2; have b13a := (hv33).1; have b13b := (hv33).2; have b14a := (hv35).1; have b14b := (hv35).2; have b15a := (hv36_39l).1; have b15b := (hv36_39l).2; omega) (by have b0a := (hx1).1; have b0b := (hx1).2; have b1a := (hx2).1; have b1b := (hx2).2; have b2a := (hmi0).1; have b2b := (hmi0).2; have b3a := (hmi1).1; have b3b := (hmi1).2; have b4a := (hmi2).1; have b4b := (hmi2).2; have b5a := (hmi3).1; have b5b := (hmi3).2; have b6a := (hv1).1; have b6b := (hv1).2; have b7a := (hj20_Ma0_9).1; have b7b := (hj20_Ma0_9).2; have b8a := (hj20_Ma0_11).1; have b8b := (hj20_Ma0_11).2; have b9a := (hj20_Ma0_13).1; have b9b := (hj20_Ma0_13).2; have b10a := (hj20_Ma0_12_39p).1; have b10b := (hj20_Ma0_12_39p).2; have b11a := (hv21_24l).1; have b11b := (hv21_24l).2; have b12a := (hv31_39p).1; have b12b := (hv31_39p).2; have b13a := (hv33).1; have b13b := (hv33).2; have b14a := (hv35).1; have b14b := (hv35).2; have b15a := (hv36_39l).1; have b15b := (hv36_39l).2; omega) hT hS (lv_sub hl [0, 1, 2] rfl)
      · skip
        have f39 := i_eq c39
        have hv36_39l : iv v36 0 0 := iv_eql hv36 (iv_c (x := (0 : Int32)) (k := 0) (by decide)) c39 (by decide)
        refine lv_aload_n hx hb dX10_number_42 rfl (lv_at hl 0 rfl) ?_
        refine lv_iconst (v := 2) hx hb dX10_number_43 (by decide) ?_
        refine ti_callv (va_runV (As := [.int (2 : Int32)]) (rest := []) ⟨hx, hb, hml, hown, hts⟩ (t_X10_errs l hT ha0 (iv_w (iv_c (x := (2 : Int32)) (k := 2) (by decide)) (by decide)) hM20_a0_13 (iv_w hj20_Ma0_13 (by decide)) hM20_a0_9 (iv_w hj20_Ma0_9 (by decide)) hM20_a0_11 (iv_w hj20_Ma0_11 (by decide)) hM20_a0_12 (iv_w hj20_Ma0_12 (by decide)) hU) (cwV 1 hts (good_V kw_421 kw_422 kw_423 kw_5 kw_424) rfl rfl rfl (by decide +kernel) ⟨by rw [hR]; decide, by rw [hR]; decide⟩) (ti_preV hK hT ha0 rfl rfl) rfl rfl hl.1 rfl (lv_room (Nat.le_of_ble_eq_true rfl)) dX10_number_44 ⟨Nat.zero_le _, Nat.zero_le _⟩) hS (pW_sub rfl) (fun H locs hB hS _ hk44 => ?_)
        obtain ⟨hT, ⟨w44_0, hw44_0, hwi44_0, hwp44_0, w44_1, hw44_1, hwi44_1, hwp44_1, w44_2, hw44_2, hwi44_2, hwp44_2, w44_3, hw44_3, hwi44_3, hwp44_3⟩⟩ := hB
        exact J47 w44_1 w44_2 w44_0 w44_3 _ _ _  (iv_w hwi44_1 (by decide)) hw44_1 (iv_w hwi44_2 (by decide)) hw44_2 (iv_w hwi44_0 (by decide)) hw44_0 (iv_w hwi44_3 (by decide)) hw44_3 (by have b0a := (hx1).1; have b0b := (hx1).2; have b1a := (hx2).1; have b1b := (hx2).2; have b2a := (hmi0).1; have b2b := (hmi0).2; have b3a := (hmi1).1; have b3b := (hmi1).2; have b4a := (hmi2).1; have b4b := (hmi2).2; have b5a := (hmi3).1; have b5b := (hmi3).2; have b6a := (hv1).1; have b6b := (hv1).2; have b7a := (hj20_Ma0_9).1; have b7b := (hj20_Ma0_9).2; have b8a := (hj20_Ma0_11).1; have b8b := (hj20_Ma0_11).2; have b9a := (hj20_Ma0_13).1; have b9b := (hj20_Ma0_13).2; have b10a := (hj20_Ma0_12).1; have b10b := (hj20_Ma0_12).2; have b11a := (hv21_24l).1; have b11b := (hv21_24l).2; have b12a := (hv31).1; have b12b := (hv31).2; have b13a := (hv33).1; have b13b := (hv33).2; have b14a := (hv35).1; have b14b := (hv35).2; have b15a := (hv36_39l).1; have b15b := (hv36_39l).2; have b16a := (hwi44_0).1; have b16b := (hwi44_0).2; have b17a := (hwi44_1).1; have b17b := (hwi44_1).2; have b18a := (hwi44_2).1; have b18b := (hwi44_2).2; have b19a := (hwi44_3).1; have b19b := (hwi44_3).2; omega) (by have b0a := (hx1).1; have b0b := (hx1).2; have b1a := (hx2).1; have b1b := (hx2).2; have b2a := (hmi0).1; have b2b := (hmi0).2; have b3a := (hmi1).1; have b3b := (hmi1).2; have b4a := (hmi2).1; have b4b := (hmi2).2; have b5a := (hmi3).1; have b5b := (hmi3).2; have b6a := (hv1).1; have b6b := (hv1).2; have b7a := (hj20_Ma0_9).1; have b7b := (hj20_Ma0_9).2; have b8a := (hj20_Ma0_11).1; have b8b := (hj20_Ma0_11).2; have b9a := (hj20_Ma0_13).1; have b9b := (hj20_Ma0_13).2; have b10a := (hj20_Ma0_12).1; have b10b := (hj20_Ma0_12).2; have b11a := (hv21_24l).1; have b11b := (hv21_24l).2; have b12a := (hv31).1; have b12b := (hv31).2; have b13a := (hv33).1; have b13b := (hv33).2; have b14a := (hv35).1; have b14b := (hv35).2; have b15a := (hv36_39l).1; have b15b := (hv36_39l).2; have b16a := (hwi44_0).1; have b16b := (hwi44_0).2; have b17a := (hwi44_1).1; have b17b := (hwi44_1).2; have b18a := (hwi44_2).1; have b18b := (hwi44_2).2; have b19a := (hwi44_3).1; have b19b := (hwi44_3).2; omega) (by have b0a := (hx1).1; have b0b := (hx1).2; have b1a := (hx2).1; have b1b := (hx2).2; have b2a := (hmi0).1; have b2b := (hmi0).2; have b3a := (hmi1).1; have b3b := (hmi1).2; have b4a := (hmi2).1; have b4b := (hmi2).2; have b5a := (hmi3).1; have b5b := (hmi3).2; have b6a := (hv1).1; have b6b := (hv1).2; have b7a := (hj20_Ma0_9).1; have b7b := (hj20_Ma0_9).2; have b8a := (hj20_Ma0_11).1; have b8b := (hj20_Ma0_11).2; have b9a := (hj20_Ma0_13).1; have b9b := (hj20_Ma0_13).2; have b10a := (hj20_Ma0_12).1; have b10b := (hj20_Ma0_12).2; have b11a := (hv21_24l).1; have b11b := (hv21_24l).2; have b12a := (hv31).1; have b12b := (hv31).2; have b13a := (hv33).1; have b13b := (hv33).2; have b14a := (hv35).1; have b14b := (hv35).2; have b15a := (hv36_39l).1; have b15b := (hv36_39l).2; have b16a := (hwi44_0).1; have b16b := (hwi44_0).2; have b17a := (hwi44_1).1; have b17b := (hwi44_1).2; have b18a := (hwi44_2).1; have b18b := (hwi44_2).2; have b19a := (hwi44_3).1; have b19b := (hwi44_3).2; omega) hT hS (lv_sub hl [0, 1, 2] rfl)
  refine lv_if_eq (tgt := 20) hx hb dX10_number_4 (by decide) (fun c4 => ?_) (fun c4 => ?_)
  · skip
    have kl0 : (0 : Int32).toInt = 0 := by decide
    have f4 := i_eq c4
    have hv1_4l : iv v1 0 0 := iv_eql hv1 (iv_c (x := (0 : Int32)) (k := 0) (by decide)) c4 (by decide)
    exact J20 m1 m2 m0 m3 _ _ _  (iv_w hmi1 (by decide)) hm1 (iv_w hmi2 (by decide)) hm2 (iv_w hmi0 (by decide)) hm0 (iv_w hmi3 (by decide)) hm3 (by have b0a := (hx1).1; have b0b := (hx1).2; have b1a := (hx2).1; have b1b := (hx2).2; have b2a := (hmi0).1; have b2b := (hmi0).2; have b3a := (hmi1).1; have b3b := (hmi1).2; have b4a := (hmi2).1; have b4b := (hmi2).2; have b5a := (hmi3).1; have b5b := (hmi3).2; have b6a := (hv1_4l).1; have b6b := (hv1_4l).2; omega) (by have b0a := (hx1).1; have b0b := (hx1).2; have b1a := (hx2).1; have b1b := (hx2).2; have b2a := (hmi0).1; have b2b := (hmi0).2; have b3a := (hmi1).1; have b3b := (hmi1).2; have b4a := (hmi2).1; have b4b := (hmi2).2; have b5a := (hmi3).1; have b5b := (hmi3).2; have b6a := (hv1_4l).1; have b6b := (hv1_4l).2; omega) hT hS (lv_sub hl [0, 1, 2] rfl)
  · skip
    have kl0 : (0 : Int32).toInt = 0 := by decide
    have f4 := i_ne c4
    have hv1_4l : iv v1 1 1 := iv_nel hv1 (iv_c (x := (0 : Int32)) (k := 0) (by decide)) c4 (by decide)
    refine lv_aload_n hx hb dX10_number_7 rfl (lv_at hl 0 rfl) ?_
    refine ti_getE (ci := 10) (v := .int m2) hx hb hts inlX10 hown hK hm2 rfl (by decide) (hts _ kw_381) (fun _ h9 => h9) dX10_number_8 ?_
    refine lv_iconst (v := 2) hx hb dX10_number_11 (by decide) ?_
    refine lv_icmp_eq (tgt := 20) hx hb dX10_number_12 (by decide) (fun c12 => ?_) (fun c12 => ?_)
    · skip
      have kl2 : (2 : Int32).toInt = 2 := by decide
      have f12 := i_eq c12
      have hm2_12l : iv m2 2 2 := iv_eql hmi2 (iv_c (x := (2 : Int32)) (k := 2) (by decide)) c12 (by decide)
      exact J20 m1 m2 m0 m3 _ _ _  (iv_w hmi1 (by decide)) hm1 (iv_w hm2_12l (by decide)) hm2 (iv_w hmi0 (by decide)) hm0 (iv_w hmi3 (by decide)) hm3 (by have b0a := (hx1).1; have b0b := (hx1).2; have b1a := (hx2).1; have b1b := (hx2).2; have b2a := (hmi0).1; have b2b := (hmi0).2; have b3a := (hmi1).1; have b3b := (hmi1).2; have b4a := (hm2_12l).1; have b4b := (hm2_12l).2; have b5a := (hmi3).1; have b5b := (hmi3).2; have b6a := (hv1_4l).1; have b6b := (hv1_4l).2; omega) (by have b0a := (hx1).1; have b0b := (hx1).2; have b1a := (hx2).1; have b1b := (hx2).2; have b2a := (hmi0).1; have b2b := (hmi0).2; have b3a := (hmi1).1; have b3b := (hmi1).2; have b4a := (hm2_12l).1; have b4b := (hm2_12l).2; have b5a := (hmi3).1; have b5b := (hmi3).2; have b6a := (hv1_4l).1; have b6b := (hv1_4l).2; omega) hT hS (lv_sub hl [0, 1, 2] rfl)
    · skip
      have kl2 : (2 : Int32).toInt = 2 := by decide
      have f12 := i_ne c12
      refine lv_aload_n hx hb dX10_number_15 rfl (lv_at hl 0 rfl) ?_
      refine lv_iconst (v := 1) hx hb dX10_number_16 (by decide) ?_
      refine ti_callv (va_runV (As := [.int (1 : Int32)]) (rest := []) ⟨hx, hb, hml, hown, hts⟩ (t_X10_errs l hT ha0 (iv_w (iv_c (x := (1 : Int32)) (k := 1) (by decide)) (by decide)) hm0 (iv_w hmi0 (by decide)) hm1 (iv_w hmi1 (by decide)) hm2 (iv_w hmi2 (by decide)) hm3 (iv_w hmi3 (by decide)) hU) (cwV 1 hts (good_V kw_421 kw_422 kw_423 kw_5 kw_424) rfl rfl rfl (by decide +kernel) ⟨by rw [hR]; decide, by rw [hR]; decide⟩) (ti_preV hK hT ha0 rfl rfl) rfl rfl hl.1 rfl (lv_room (Nat.le_of_ble_eq_true rfl)) dX10_number_17 ⟨Nat.zero_le _, Nat.zero_le _⟩) hS (pW_sub rfl) (fun H locs hB hS _ hk17 => ?_)
      obtain ⟨hT, ⟨w17_0, hw17_0, hwi17_0, hwp17_0, w17_1, hw17_1, hwi17_1, hwp17_1, w17_2, hw17_2, hwi17_2, hwp17_2, w17_3, hw17_3, hwi17_3, hwp17_3⟩⟩ := hB
      exact J20 w17_1 w17_2 w17_0 w17_3 _ _ _  (iv_w hwi17_1 (by decide)) hw17_1 (iv_w hwi17_2 (by decide)) hw17_2 (iv_w hwi17_0 (by decide)) hw17_0 (iv_w hwi17_3 (by decide)) hw17_3 (by have b0a := (hx1).1; have b0b := (hx1).2; have b1a := (hx2).1; have b1b := (hx2).2; have b2a := (hmi0).1; have b2b := (hmi0).2; have b3a := (hmi1).1; have b3b := (hmi1).2; have b4a := (hmi2).1; have b4b := (hmi2).2; have b5a := (hmi3).1; have b5b := (hmi3).2; have b6a := (hv1_4l).1; have b6b := (hv1_4l).2; have b7a := (hwi17_0).1; have b7b := (hwi17_0).2; have b8a := (hwi17_1).1; have b8b := (hwi17_1).2; have b9a := (hwi17_2).1; have b9b := (hwi17_2).2; have b10a := (hwi17_3).1; have b10b := (hwi17_3).2; omega) (by have b0a := (hx1).1; have b0b := (hx1).2; have b1a := (hx2).1; have b1b := (hx2).2; have b2a := (hmi0).1; have b2b := (hmi0).2; have b3a := (hmi1).1; have b3b := (hmi1).2; have b4a := (hmi2).1; have b4b := (hmi2).2; have b5a := (hmi3).1; have b5b := (hmi3).2; have b6a := (hv1_4l).1; have b6b := (hv1_4l).2; have b7a := (hwi17_0).1; have b7b := (hwi17_0).2; have b8a := (hwi17_1).1; have b8b := (hwi17_1).2; have b9a := (hwi17_2).1; have b9b := (hwi17_2).2; have b10a := (hwi17_3).1; have b10b := (hwi17_3).2; omega) hT hS (lv_sub hl [0, 1, 2] rfl)
set_option maxHeartbeats 4000000 in
set_option maxRecDepth 100000 in
theorem t_X10_fault (l : Launch) {D : va_G} {c0 : Nat → ClassId} {Y : Nat → Option Nat} {ν : Nat → Nat} {H : Heap} (hT : TI D vwCl (tysOf c0) (RTg ν) Y H) {a0 : Nat} (ha0 : Y a0 = some 10) {x1 : Int32} (hx1 : iv x1 (-2147483648) 2147483647) (hU : uq Y) : Met l yX10_fault (wz yX10_fault cX10_fault 2 (some .int)) { frames := 0, cells := 0, slots := 0, locals := 0 } (TP D vwCl (tysOf c0) H [.ref a0, .int x1]) (TQi (fun x H' => H' = H) Y []) 0 0 (pW Y []) := by
  refine Met.ofW (cc := cX10_fault) (maxL := 2) (ret := (some .int)) (by decide) rfl ?_
  intro p e s m args below meth c s₁ B hml hv
  obtain ⟨rfl, rfl, hK⟩ := hv
  have hx := B.exec
  have hb := B.bytes
  have hr := B.returns
  have hts : ∀ w ∈ wq, w.before _ s = true := fun w h => atoms_spec (ws := wz yX10_fault cX10_fault 2 (some .int)) B.pre w (List.mem_cons_of_mem _ h)
  have hown : s.vm.findClass RX10 = some m.cls := findClass_of_methodNamed B.named
  have hlocks := B.notSynchronized
  obtain ⟨R, hR⟩ : ∃ R : Room, R = ({ frames := 0, cells := 0, slots := 0, locals := 0 } : Room) := ⟨_, rfl⟩
  rw [show (headSpec (wz yX10_fault cX10_fault 2 (some .int)) { frames := 0, cells := 0, slots := 0, locals := 0 }).room = R from hR.symm]
  refine ti_mi hx hb hr hlocks (fun Q ret => ?_)
  have hl := lv_entry [.ref a0, .int x1] (n := 2) (Nat.le_of_ble_eq_true rfl)
  rw [lg_entry_eq]
  generalize (lg_sl [.ref a0, .int x1] ++ List.replicate (2 - (lg_sl [.ref a0, .int x1]).length) Slot.unset).toArray = ls at hl ⊢
  have hl : lv_has ls 2 [(0, .ref a0), (1, .int x1)] := hl
  have hS : va_S (pW Y []) s.heap s.heap [] := va_S.rf
  refine lv_iload_n hx hb dX10_fault_0 rfl (lv_at hl 1 rfl) ?_
  refine lv_if_ne (tgt := 11) hx hb dX10_fault_1 (by decide) (fun c1 => ?_) (fun c1 => ?_)
  · skip
    have kl0 : (0 : Int32).toInt = 0 := by decide
    have f1 := i_ne c1
    refine lv_iload_n hx hb dX10_fault_11 rfl (lv_at hl 1 rfl) ?_
    refine lv_iconst (v := 1) hx hb dX10_fault_12 (by decide) ?_
    refine lv_icmp_ne (tgt := 23) hx hb dX10_fault_13 (by decide) (fun c13 => ?_) (fun c13 => ?_)
    · skip
      have kl1 : (1 : Int32).toInt = 1 := by decide
      have f13 := i_ne c13
      refine lv_iconst (v := (-1)) hx hb dX10_fault_23 (by decide) ?_
      exact ret _ _ _ _ _ dX10_fault_24 (rfl) hS
    · skip
      have kl1 : (1 : Int32).toInt = 1 := by decide
      have f13 := i_eq c13
      have hx1_13l : iv x1 1 1 := iv_eql hx1 (iv_c (x := (1 : Int32)) (k := 1) (by decide)) c13 (by decide)
      refine lv_aload_n hx hb dX10_fault_16 rfl (lv_at hl 0 rfl) ?_
      refine ti_geti hx hb hts inlX10 hown hK hT ha0 rfl rfl rfl 14 (by decide) (hts _ kw_136) (fun _ h9 => h9) rfl dX10_fault_17 (fun v17 hv17 hm17 => ?_)
      refine lv_goto (tgt := 24) hx hb dX10_fault_20 (by decide) ?_
      exact ret _ _ _ _ _ dX10_fault_24 (rfl) hS
  · skip
    have kl0 : (0 : Int32).toInt = 0 := by decide
    have f1 := i_eq c1
    have hx1_1l : iv x1 0 0 := iv_eql hx1 (iv_c (x := (0 : Int32)) (k := 0) (by decide)) c1 (by decide)
    refine lv_aload_n hx hb dX10_fault_4 rfl (lv_at hl 0 rfl) ?_
    refine ti_geti hx hb hts inlX10 hown hK hT ha0 rfl rfl rfl 13 (by decide) (hts _ kw_380) (fun _ h9 => h9) rfl dX10_fault_5 (fun v5 hv5 hm5 => ?_)
    refine lv_goto (tgt := 24) hx hb dX10_fault_8 (by decide) ?_
    exact ret _ _ _ _ _ dX10_fault_24 (rfl) hS
set_option maxHeartbeats 4000000 in
set_option maxRecDepth 100000 in
theorem t_X10_draw (l : Launch) {D : va_G} {c0 : Nat → ClassId} {Y : Nat → Option Nat} {ν : Nat → Nat} {H : Heap} (hT : TI D vwCl (tysOf c0) (RTg ν) Y H) {a0 : Nat} (ha0 : Y a0 = some 10) (hU : uq Y) : Met l yX10_draw (wz yX10_draw cX10_draw 1 (some .int)) { frames := 0, cells := 0, slots := 0, locals := 0 } (TP D vwCl (tysOf c0) H [.ref a0]) (TQi (fun x H' => TI D vwCl (tysOf c0) (RTg ν) Y H') Y [10]) 0 0 (pW Y [10]) := by
  refine Met.ofW (cc := cX10_draw) (maxL := 1) (ret := (some .int)) (by decide) rfl ?_
  intro p e s m args below meth c s₁ B hml hv
  obtain ⟨rfl, rfl, hK⟩ := hv
  have hx := B.exec
  have hb := B.bytes
  have hr := B.returns
  have hts : ∀ w ∈ wq, w.before _ s = true := fun w h => atoms_spec (ws := wz yX10_draw cX10_draw 1 (some .int)) B.pre w (List.mem_cons_of_mem _ h)
  have hown : s.vm.findClass RX10 = some m.cls := findClass_of_methodNamed B.named
  have hlocks := B.notSynchronized
  obtain ⟨R, hR⟩ : ∃ R : Room, R = ({ frames := 0, cells := 0, slots := 0, locals := 0 } : Room) := ⟨_, rfl⟩
  rw [show (headSpec (wz yX10_draw cX10_draw 1 (some .int)) { frames := 0, cells := 0, slots := 0, locals := 0 }).room = R from hR.symm]
  refine ti_mi hx hb hr hlocks (fun Q ret => ?_)
  have hl := lv_entry [.ref a0] (n := 1) (Nat.le_of_ble_eq_true rfl)
  rw [lg_entry_eq]
  generalize (lg_sl [.ref a0] ++ List.replicate (1 - (lg_sl [.ref a0]).length) Slot.unset).toArray = ls at hl ⊢
  have hl : lv_has ls 1 [(0, .ref a0)] := hl
  refine ti_gen (P := fun H => TI D vwCl (tysOf c0) (RTg ν) Y H) (Y := Y) (ws := [10]) hT (fun H locs hT hS => ?_)
  refine lv_aload_n hx hb dX10_draw_0 rfl (lv_at hl 0 rfl) ?_
  refine lv_ldc2 (v := 1103515245) hx hb hown (hts _ kw_743) dX10_draw_1 ?_
  have kj1103515245 : (1103515245 : Int64).toInt = 1103515245 := by decide
  refine lv_aload_n hx hb dX10_draw_4 rfl (lv_at hl 0 rfl) ?_
  refine ti_getl hx hb hts inlX10 hown hK hT ha0 rfl rfl rfl 16 (by decide) (hts _ kw_382) (fun _ h9 => h9) rfl dX10_draw_5 (fun v5 hm5 => ?_)
  refine lv_lmul hx hb dX10_draw_8 ?_
  refine lv_topl (fun v8 e8 => ?_)
  refine lv_ldc2 (v := 12345) hx hb hown (hts _ kw_744) dX10_draw_9 ?_
  have kj12345 : (12345 : Int64).toInt = 12345 := by decide
  refine lv_ladd hx hb dX10_draw_12 ?_
  refine lv_topl (fun v12 e12 => ?_)
  refine lv_ldc2 (v := 2147483648) hx hb hown (hts _ kw_745) dX10_draw_13 ?_
  have kj2147483648 : (2147483648 : Int64).toInt = 2147483648 := by decide
  refine lv_lrem hx hb dX10_draw_16 (lv_lne (jv_c (x := (2147483648 : Int64)) (k := 2147483648) (by decide)) (by decide)) ?_
  refine lv_topl (fun v16 e16 => ?_)
  refine ti_put (ty := .long) hx hb hts inlX10 tyX10 tyX10_ok nmX10 hown hK hT hS ha0 rfl rfl rfl rfl 16 (by decide) (hts _ kw_382) (fun _ h9 => h9) rfl rfl (by decide +kernel) rfl rfl ⟨v16, rfl⟩ (fun _ _ => trivial) dX10_draw_17 (fun H locs hT hS oq17 he17 hk17 => ?_)
  refine lv_aload_n hx hb dX10_draw_20 rfl (lv_at hl 0 rfl) ?_
  refine ti_getE (ci := 10) (v := .long v16) hx hb hts inlX10 hown hK he17 rfl (by decide) (hts _ kw_382) (fun _ h9 => h9) dX10_draw_21 ?_
  refine lv_ldc2 (v := 65536) hx hb hown (hts _ kw_746) dX10_draw_24 ?_
  have kj65536 : (65536 : Int64).toInt = 65536 := by decide
  refine lv_ldiv hx hb dX10_draw_27 (lv_lne (jv_c (x := (65536 : Int64)) (k := 65536) (by decide)) (by decide)) ?_
  refine lv_topl (fun v27 e27 => ?_)
  refine lv_ldc2 (v := 100) hx hb hown (hts _ kw_747) dX10_draw_28 ?_
  have kj100 : (100 : Int64).toInt = 100 := by decide
  refine lv_lrem hx hb dX10_draw_31 (lv_lne (jv_c (x := (100 : Int64)) (k := 100) (by decide)) (by decide)) ?_
  refine lv_topl (fun v31 e31 => ?_)
  refine lv_l2i hx hb dX10_draw_32 rfl ?_
  refine lv_topi (fun v32 e32 => ?_)
  have hv32 : iv v32 (-2147483648) 2147483647 := iv_top _
  exact ret _ _ _ _ _ dX10_draw_33 (hT) hS
set_option maxHeartbeats 4000000 in
set_option maxRecDepth 100000 in
theorem t_X10_has (l : Launch) {D : va_G} {c0 : Nat → ClassId} {Y : Nat → Option Nat} {ν : Nat → Nat} {H : Heap} (hT : TI D vwCl (tysOf c0) (RTg ν) Y H) {a0 : Nat} (ha0 : Y a0 = some 10) {x1 : Int32} (hx1 : iv x1 0 7) {x2 : Int32} (hx2 : iv x2 (-2147483648) 2147483647) (hU : uq Y) : Met l yX10_has (wz yX10_has cX10_has 3 none) { frames := 1, cells := 0, slots := 0, locals := 60 } (TP D vwCl (tysOf c0) H [.ref a0, .int x1, .int x2]) (TQv (fun H' => TI D vwCl (tysOf c0) (RTg ν) Y H' ∧ ((∀ k9 : Int32, wv D a0 9 k9 H → wv D a0 9 k9 H'))) Y [30]) 0 0 (pW Y [30]) := by
  refine Met.ofW (cc := cX10_has) (maxL := 3) (ret := none) (by decide) rfl ?_
  intro p e s m args below meth c s₁ B hml hv
  obtain ⟨rfl, rfl, hK⟩ := hv
  have hx := B.exec
  have hb := B.bytes
  have hr := B.returns
  have hts : ∀ w ∈ wq, w.before _ s = true := fun w h => atoms_spec (ws := wz yX10_has cX10_has 3 none) B.pre w (List.mem_cons_of_mem _ h)
  have hown : s.vm.findClass RX10 = some m.cls := findClass_of_methodNamed B.named
  have hlocks := B.notSynchronized
  obtain ⟨R, hR⟩ : ∃ R : Room, R = ({ frames := 1, cells := 0, slots := 0, locals := 60 } : Room) := ⟨_, rfl⟩
  rw [show (headSpec (wz yX10_has cX10_has 3 none) { frames := 1, cells := 0, slots := 0, locals := 60 }).room = R from hR.symm]
  refine ti_mv hx hb hr hlocks (fun Q ret => ?_)
  have hl := lv_entry [.ref a0, .int x1, .int x2] (n := 3) (Nat.le_of_ble_eq_true rfl)
  rw [lg_entry_eq]
  generalize (lg_sl [.ref a0, .int x1, .int x2] ++ List.replicate (3 - (lg_sl [.ref a0, .int x1, .int x2]).length) Slot.unset).toArray = ls at hl ⊢
  have hl : lv_has ls 3 [(0, .ref a0), (1, .int x1), (2, .int x2)] := hl
  refine ti_gen (P := fun H => TI D vwCl (tysOf c0) (RTg ν) Y H ∧ (∀ k9 : Int32, wv D a0 9 k9 s.heap → wv D a0 9 k9 H)) (Y := Y) (ws := [30]) ⟨hT, fun _ h => h⟩ (fun H locs hT hS => ?_)
  obtain ⟨hT, h9k⟩ := hT
  refine lv_aload_n hx hb dX10_has_0 rfl (lv_at hl 0 rfl) ?_
  refine lv_iload_n hx hb dX10_has_1 rfl (lv_at hl 1 rfl) ?_
  refine lv_iconst (v := 0) hx hb dX10_has_2 (by decide) ?_
  refine lv_aload_n hx hb dX10_has_3 rfl (lv_at hl 0 rfl) ?_
  refine ti_getr hx hb hts inlX10 hown hK hT ha0 rfl rfl rfl 1 (by decide) (hts _ kw_130) (fun _ h9 => h9) rfl dX10_has_4 (fun v4 hv4 hm4 => ?_)
  refine lv_iconst (v := 1) hx hb dX10_has_7 (by decide) ?_
  refine ti_iald (lo := (-2147483648)) (hi := 100000) hx hb (aT0 hK) hT hv4 rfl (iv_c (x := (1 : Int32)) (k := 1) (by decide)) (by decide) (one_j 1 rfl rfl (by decide) (by decide)) dX10_has_8 (fun v8 hv8 hm8 => ?_)
  refine lv_iload_n hx hb dX10_has_9 rfl (lv_at hl 2 rfl) ?_
  refine va_mmin hx hb (by rw [hml]; exact hl.1.symm) hown (hts _ kw_394) (hts _ kw_211) (hts _ kw_212) (hts _ kw_213) (by rw [hR]; decide) (by rw [hR]; exact Nat.le_of_ble_eq_true rfl) (Nat.zero_le _) (Nat.zero_le _) dX10_has_10 ?_
  refine lv_topi (fun v10 e10 => ?_)
  have hv10 : iv v10 (-2147483648) 100000 := by rw [e10]; exact iv_min hv8 hx2 (by decide)
  refine ti_callv (va_runV (As := [.int x1, .int (0 : Int32), .int v10]) (rest := []) ⟨hx, hb, hml, hown, hts⟩ (t_X10_set l hT ha0 (iv_w hx1 (by decide)) (iv_w (iv_c (x := (0 : Int32)) (k := 0) (by decide)) (by decide)) (iv_w hv10 (by decide)) (fun h9 => by have b0a := (hx1).1; have b0b := (hx1).2; have b1a := (hv10).1; have b1b := (hv10).2; omega) hU) (cwV 3 hts (good_V kw_511 kw_512 kw_513 kw_5 kw_514) rfl rfl rfl (by decide +kernel) ⟨by rw [hR]; decide, by rw [hR]; decide⟩) (ti_preV hK hT ha0 rfl rfl) rfl rfl hl.1 rfl (lv_room (Nat.le_of_ble_eq_true rfl)) dX10_has_13 ⟨Nat.zero_le _, Nat.zero_le _⟩) hS (pW_sub rfl) (fun H locs hB hS _ hk13 => ?_)
  obtain ⟨hT, hp13⟩ := hB
  refine lv_aload_n hx hb dX10_has_16 rfl (lv_at hl 0 rfl) ?_
  refine lv_iload_n hx hb dX10_has_17 rfl (lv_at hl 1 rfl) ?_
  refine lv_iconst (v := 1) hx hb dX10_has_18 (by decide) ?_
  refine lv_aload_n hx hb dX10_has_19 rfl (lv_at hl 0 rfl) ?_
  refine lv_iload_n hx hb dX10_has_20 rfl (lv_at hl 1 rfl) ?_
  refine lv_iconst (v := 1) hx hb dX10_has_21 (by decide) ?_
  refine ti_calli (va_runV (As := [.int x1, .int (1 : Int32)]) (rest := [.int (1 : Int32), .int x1, .ref a0]) ⟨hx, hb, hml, hown, hts⟩ (t_X10_of l hT ha0 (iv_w hx1 (by decide)) (iv_w (iv_c (x := (1 : Int32)) (k := 1) (by decide)) (by decide)) hU) (cwV 2 hts (good_V kw_490 kw_491 kw_492 kw_5 kw_493) rfl rfl rfl (by decide +kernel) ⟨by rw [hR]; decide, by rw [hR]; decide⟩) (ti_preV hK hT ha0 rfl rfl) rfl rfl hl.1 rfl (lv_room (Nat.le_of_ble_eq_true rfl)) dX10_has_22 ⟨Nat.zero_le _, Nat.zero_le _⟩) hS (pW_sub rfl) (fun v22 H1 locs hB hS _ hk22 => ?_)
  obtain ⟨hH, hp22⟩ := hB
  rw [hH] at hS ⊢
  have kl1 : (1 : Int32).toInt = 1 := by decide
  refine lv_aload_n hx hb dX10_has_25 rfl (lv_at hl 0 rfl) ?_
  refine lv_iload_n hx hb dX10_has_26 rfl (lv_at hl 1 rfl) ?_
  refine lv_iconst (v := 0) hx hb dX10_has_27 (by decide) ?_
  refine ti_calli (va_runV (As := [.int x1, .int (0 : Int32)]) (rest := [.int v22, .int (1 : Int32), .int x1, .ref a0]) ⟨hx, hb, hml, hown, hts⟩ (t_X10_of l hT ha0 (iv_w hx1 (by decide)) (iv_w (iv_c (x := (0 : Int32)) (k := 0) (by decide)) (by decide)) hU) (cwV 2 hts (good_V kw_490 kw_491 kw_492 kw_5 kw_493) rfl rfl rfl (by decide +kernel) ⟨by rw [hR]; decide, by rw [hR]; decide⟩) (ti_preV hK hT ha0 rfl rfl) rfl rfl hl.1 rfl (lv_room (Nat.le_of_ble_eq_true rfl)) dX10_has_28 ⟨Nat.zero_le _, Nat.zero_le _⟩) hS (pW_sub rfl) (fun v28 H1 locs hB hS _ hk28 => ?_)
  obtain ⟨hH, hp28⟩ := hB
  rw [hH] at hS ⊢
  have kl0 : (0 : Int32).toInt = 0 := by decide
  have hf28 : iv v28 (-2147483648) 100000 := by have b0a := ((iv_top v28)).1; have b0b := ((iv_top v28)).2; exact ⟨by omega, by omega⟩
  refine va_mmin hx hb (by rw [hml]; exact hl.1.symm) hown (hts _ kw_394) (hts _ kw_211) (hts _ kw_212) (hts _ kw_213) (by rw [hR]; decide) (by rw [hR]; exact Nat.le_of_ble_eq_true rfl) (Nat.zero_le _) (Nat.zero_le _) dX10_has_31 ?_
  refine lv_topi (fun v31 e31 => ?_)
  have hv31 : iv v31 (-2147483648) 100000 := by rw [e31]; exact iv_min (iv_top v22) hf28 (by decide)
  refine ti_callv (va_runV (As := [.int x1, .int (1 : Int32), .int v31]) (rest := []) ⟨hx, hb, hml, hown, hts⟩ (t_X10_set l hT ha0 (iv_w hx1 (by decide)) (iv_w (iv_c (x := (1 : Int32)) (k := 1) (by decide)) (by decide)) (iv_w hv31 (by decide)) (fun h9 => by have b0a := (hx1).1; have b0b := (hx1).2; have b1a := (hv31).1; have b1b := (hv31).2; omega) hU) (cwV 3 hts (good_V kw_511 kw_512 kw_513 kw_5 kw_514) rfl rfl rfl (by decide +kernel) ⟨by rw [hR]; decide, by rw [hR]; decide⟩) (ti_preV hK hT ha0 rfl rfl) rfl rfl hl.1 rfl (lv_room (Nat.le_of_ble_eq_true rfl)) dX10_has_34 ⟨Nat.zero_le _, Nat.zero_le _⟩) hS (pW_sub rfl) (fun H locs hB hS _ hk34 => ?_)
  obtain ⟨hT, hp34⟩ := hB
  exact ret _ _ _ _ dX10_has_37 (⟨hT, fun k9 h9 => hp34 _ (hp13 _ (h9k k9 h9))⟩) hS
set_option maxHeartbeats 4000000 in
set_option maxRecDepth 100000 in
theorem t_X10_shown (l : Launch) {D : va_G} {c0 : Nat → ClassId} {Y : Nat → Option Nat} {ν : Nat → Nat} {H : Heap} (hT : TI D vwCl (tysOf c0) (RTg ν) Y H) {a0 : Nat} (ha0 : Y a0 = some 10) {x1 : Int32} (hx1 : iv x1 0 7) (hU : uq Y) : Met l yX10_shown (wz yX10_shown cX10_shown 2 (some .int)) { frames := 1, cells := 0, slots := 0, locals := 22 } (TP D vwCl (tysOf c0) H [.ref a0, .int x1]) (TQi (fun x H' => H' = H) Y []) 0 0 (pW Y []) := by
  refine Met.ofW (cc := cX10_shown) (maxL := 2) (ret := (some .int)) (by decide) rfl ?_
  intro p e s m args below meth c s₁ B hml hv
  obtain ⟨rfl, rfl, hK⟩ := hv
  have hx := B.exec
  have hb := B.bytes
  have hr := B.returns
  have hts : ∀ w ∈ wq, w.before _ s = true := fun w h => atoms_spec (ws := wz yX10_shown cX10_shown 2 (some .int)) B.pre w (List.mem_cons_of_mem _ h)
  have hown : s.vm.findClass RX10 = some m.cls := findClass_of_methodNamed B.named
  have hlocks := B.notSynchronized
  obtain ⟨R, hR⟩ : ∃ R : Room, R = ({ frames := 1, cells := 0, slots := 0, locals := 22 } : Room) := ⟨_, rfl⟩
  rw [show (headSpec (wz yX10_shown cX10_shown 2 (some .int)) { frames := 1, cells := 0, slots := 0, locals := 22 }).room = R from hR.symm]
  refine ti_mi hx hb hr hlocks (fun Q ret => ?_)
  have hl := lv_entry [.ref a0, .int x1] (n := 2) (Nat.le_of_ble_eq_true rfl)
  rw [lg_entry_eq]
  generalize (lg_sl [.ref a0, .int x1] ++ List.replicate (2 - (lg_sl [.ref a0, .int x1]).length) Slot.unset).toArray = ls at hl ⊢
  have hl : lv_has ls 2 [(0, .ref a0), (1, .int x1)] := hl
  have hS : va_S (pW Y []) s.heap s.heap [] := va_S.rf
  refine lv_aload_n hx hb dX10_shown_0 rfl (lv_at hl 0 rfl) ?_
  refine lv_iload_n hx hb dX10_shown_1 rfl (lv_at hl 1 rfl) ?_
  refine lv_iconst (v := 0) hx hb dX10_shown_2 (by decide) ?_
  refine ti_calli (va_runV (As := [.int x1, .int (0 : Int32)]) (rest := []) ⟨hx, hb, hml, hown, hts⟩ (t_X10_of l hT ha0 (iv_w hx1 (by decide)) (iv_w (iv_c (x := (0 : Int32)) (k := 0) (by decide)) (by decide)) hU) (cwV 2 hts (good_V kw_490 kw_491 kw_492 kw_5 kw_493) rfl rfl rfl (by decide +kernel) ⟨by rw [hR]; decide, by rw [hR]; decide⟩) (ti_preV hK hT ha0 rfl rfl) rfl rfl hl.1 rfl (lv_room (Nat.le_of_ble_eq_true rfl)) dX10_shown_3 ⟨Nat.zero_le _, Nat.zero_le _⟩) hS (pW_sub rfl) (fun v3 H1 locs hB hS _ hk3 => ?_)
  obtain ⟨hH, hp3⟩ := hB
  rw [hH] at hS ⊢
  have kl0 : (0 : Int32).toInt = 0 := by decide
  have hf3 : iv v3 (-2147483648) 100000 := by have b0a := ((iv_top v3)).1; have b0b := ((iv_top v3)).2; exact ⟨by omega, by omega⟩
  refine lv_aload_n hx hb dX10_shown_6 rfl (lv_at hl 0 rfl) ?_
  refine lv_iload_n hx hb dX10_shown_7 rfl (lv_at hl 1 rfl) ?_
  refine lv_iconst (v := 1) hx hb dX10_shown_8 (by decide) ?_
  refine ti_calli (va_runV (As := [.int x1, .int (1 : Int32)]) (rest := [.int v3]) ⟨hx, hb, hml, hown, hts⟩ (t_X10_of l hT ha0 (iv_w hx1 (by decide)) (iv_w (iv_c (x := (1 : Int32)) (k := 1) (by decide)) (by decide)) hU) (cwV 2 hts (good_V kw_490 kw_491 kw_492 kw_5 kw_493) rfl rfl rfl (by decide +kernel) ⟨by rw [hR]; decide, by rw [hR]; decide⟩) (ti_preV hK hT ha0 rfl rfl) rfl rfl hl.1 rfl (lv_room (Nat.le_of_ble_eq_true rfl)) dX10_shown_9 ⟨Nat.zero_le _, Nat.zero_le _⟩) hS (pW_sub rfl) (fun v9 H1 locs hB hS _ hk9 => ?_)
  obtain ⟨hH, hp9⟩ := hB
  rw [hH] at hS ⊢
  have kl1 : (1 : Int32).toInt = 1 := by decide
  refine lv_isub hx hb dX10_shown_12 ?_
  refine lv_topi (fun v12 e12 => ?_)
  have hv12 : iv v12 (-2147483648) 2147483647 := iv_top _
  exact ret _ _ _ _ _ dX10_shown_13 (rfl) hS
set_option maxHeartbeats 4000000 in
set_option maxRecDepth 100000 in
theorem t_X10_sees (l : Launch) {D : va_G} {c0 : Nat → ClassId} {Y : Nat → Option Nat} {ν : Nat → Nat} {H : Heap} (hT : TI D vwCl (tysOf c0) (RTg ν) Y H) {a0 : Nat} (ha0 : Y a0 = some 10) {x1 : Int32} (hx1 : iv x1 0 7) {x2 : Int32} (hx2 : iv x2 0 7) (hU : uq Y) : Met l yX10_sees (wz yX10_sees cX10_sees 4 (some .int)) { frames := 2, cells := 0, slots := 0, locals := 43 } (TP D vwCl (tysOf c0) H [.ref a0, .int x1, .int x2]) (TQi (fun x H' => H' = H) Y []) 0 0 (pW Y []) := by
  refine Met.ofW (cc := cX10_sees) (maxL := 4) (ret := (some .int)) (by decide) rfl ?_
  intro p e s m args below meth c s₁ B hml hv
  obtain ⟨rfl, rfl, hK⟩ := hv
  have hx := B.exec
  have hb := B.bytes
  have hr := B.returns
  have hts : ∀ w ∈ wq, w.before _ s = true := fun w h => atoms_spec (ws := wz yX10_sees cX10_sees 4 (some .int)) B.pre w (List.mem_cons_of_mem _ h)
  have hown : s.vm.findClass RX10 = some m.cls := findClass_of_methodNamed B.named
  have hlocks := B.notSynchronized
  obtain ⟨R, hR⟩ : ∃ R : Room, R = ({ frames := 2, cells := 0, slots := 0, locals := 43 } : Room) := ⟨_, rfl⟩
  rw [show (headSpec (wz yX10_sees cX10_sees 4 (some .int)) { frames := 2, cells := 0, slots := 0, locals := 43 }).room = R from hR.symm]
  refine ti_mi hx hb hr hlocks (fun Q ret => ?_)
  have hl := lv_entry [.ref a0, .int x1, .int x2] (n := 4) (Nat.le_of_ble_eq_true rfl)
  rw [lg_entry_eq]
  generalize (lg_sl [.ref a0, .int x1, .int x2] ++ List.replicate (4 - (lg_sl [.ref a0, .int x1, .int x2]).length) Slot.unset).toArray = ls at hl ⊢
  have hl : lv_has ls 4 [(0, .ref a0), (1, .int x1), (2, .int x2)] := hl
  have hS : va_S (pW Y []) s.heap s.heap [] := va_S.rf
  refine lv_aload_n hx hb dX10_sees_0 rfl (lv_at hl 0 rfl) ?_
  refine ti_getr hx hb hts inlX10 hown hK hT ha0 rfl rfl rfl 1 (by decide) (hts _ kw_130) (fun _ h9 => h9) rfl dX10_sees_1 (fun v1 hv1 hm1 => ?_)
  refine lv_bipush (v := 96) hx hb dX10_sees_4 (by decide) ?_
  refine lv_bipush (v := 8) hx hb dX10_sees_6 (by decide) ?_
  refine lv_iload_n hx hb dX10_sees_8 rfl (lv_at hl 1 rfl) ?_
  refine lv_imul hx hb dX10_sees_9 ?_
  refine lv_topi (fun v9 e9 => ?_)
  have hv9 : iv v9 0 56 := by rw [e9]; exact iv_mul (iv_c (x := (8 : Int32)) (k := 8) (by decide)) hx1 (by decide)
  have kl8 : (8 : Int32).toInt = 8 := by decide
  have s9 : v9.toInt = (8 : Int32).toInt * x1.toInt := by rw [e9]; exact iv_mulE (iv_c (x := (8 : Int32)) (k := 8) (by decide)) hx1 (by decide)
  have s9 : v9.toInt = 8 * x1.toInt := by rw [s9]; simp only [show (8 : Int32).toInt = 8 from by decide]; try omega
  refine lv_iadd hx hb dX10_sees_10 ?_
  refine lv_topi (fun v10 e10 => ?_)
  have hv10 : iv v10 96 152 := by rw [e10]; exact iv_w (iv_add (iv_c (x := (96 : Int32)) (k := 96) (by decide)) hv9 (by decide)) (by decide)
  have s10 : v10.toInt = (96 : Int32).toInt + v9.toInt := by rw [e10]; exact iv_addE (iv_c (x := (96 : Int32)) (k := 96) (by decide)) hv9 (by decide)
  have kl96 : (96 : Int32).toInt = 96 := by decide
  refine lv_iload_n hx hb dX10_sees_11 rfl (lv_at hl 2 rfl) ?_
  refine lv_iadd hx hb dX10_sees_12 ?_
  refine lv_topi (fun v12 e12 => ?_)
  have hv12 : iv v12 96 159 := by rw [e12]; exact iv_w (iv_add hv10 hx2 (by decide)) (by decide)
  have s12 : v12.toInt = v10.toInt + x2.toInt := by rw [e12]; exact iv_addE hv10 hx2 (by decide)
  refine ti_iald (lo := 1) (hi := 30) hx hb (aT0 hK) hT hv1 rfl hv12 (by decide) (rng_ld 96 159 (by decide +kernel)) dX10_sees_13 (fun v13 hv13 hm13 => ?_)
  refine lv_istore_n (lv' := [(3, .int v13), (0, .ref a0), (1, .int x1), (2, .int x2)]) hx hb dX10_sees_14 rfl hl (by decide) rfl (fun ls hl => ?_)
  refine lv_aload_n hx hb dX10_sees_15 rfl (lv_at hl 1 rfl) ?_
  refine lv_iload_n hx hb dX10_sees_16 rfl (lv_at hl 3 rfl) ?_
  refine ti_calli (va_runV (As := [.int x2]) (rest := []) ⟨hx, hb, hml, hown, hts⟩ (t_X10_shown l hT ha0 (iv_w hx2 (by decide)) hU) (cwV 1 hts (good_V kw_553 kw_554 kw_555 kw_5 kw_556) rfl rfl rfl (by decide +kernel) ⟨by rw [hR]; decide, by rw [hR]; decide⟩) (ti_preV hK hT ha0 rfl rfl) rfl rfl hl.1 rfl (lv_room (Nat.le_of_ble_eq_true rfl)) dX10_sees_17 ⟨Nat.zero_le _, Nat.zero_le _⟩) hS (pW_sub rfl) (fun v17 H1 locs hB hS _ hk17 => ?_)
  have hH := hB
  rw [hH] at hS ⊢
  refine lv_iload_n hx hb dX10_sees_20 rfl (lv_at hl 0 rfl) ?_
  refine lv_idiv hx hb dX10_sees_21 (iv_ne0 hv13 (by decide)) ?_
  refine lv_topi (fun v21 e21 => ?_)
  have hv21 : iv v21 (-2147483648) 2147483647 := by rw [e21]; exact iv_div (iv_top v17) hv13 (by decide)
  refine lv_iload_n hx hb dX10_sees_22 rfl (lv_at hl 0 rfl) ?_
  refine lv_imul hx hb dX10_sees_23 ?_
  refine lv_topi (fun v23 e23 => ?_)
  have hv23 : iv v23 (-2147483648) 2147483647 := iv_top _
  exact ret _ _ _ _ _ dX10_sees_24 (rfl) hS
set_option maxHeartbeats 4000000 in
set_option maxRecDepth 100000 in
theorem t_X10_person (l : Launch) {D : va_G} {c0 : Nat → ClassId} {Y : Nat → Option Nat} {ν : Nat → Nat} {H : Heap} (hT : TI D vwCl (tysOf c0) (RTg ν) Y H) {a0 : Nat} (ha0 : Y a0 = some 10) {x1 : Int32} (hx1 : iv x1 (-2147483648) 2147483647) {x2 : Int32} (hx2 : iv x2 (-2147483648) 2147483647) (hU : uq Y) : Met l yX10_person (wz yX10_person cX10_person 3 (some .int)) { frames := 2, cells := 0, slots := 0, locals := 46 } (TP D vwCl (tysOf c0) H [.ref a0, .int x1, .int x2]) (TQi (fun x H' => H' = H) Y []) 0 0 (pW Y []) := by
  refine Met.ofW (cc := cX10_person) (maxL := 3) (ret := (some .int)) (by decide) rfl ?_
  intro p e s m args below meth c s₁ B hml hv
  obtain ⟨rfl, rfl, hK⟩ := hv
  have hx := B.exec
  have hb := B.bytes
  have hr := B.returns
  have hts : ∀ w ∈ wq, w.before _ s = true := fun w h => atoms_spec (ws := wz yX10_person cX10_person 3 (some .int)) B.pre w (List.mem_cons_of_mem _ h)
  have hown : s.vm.findClass RX10 = some m.cls := findClass_of_methodNamed B.named
  have hlocks := B.notSynchronized
  obtain ⟨R, hR⟩ : ∃ R : Room, R = ({ frames := 2, cells := 0, slots := 0, locals := 46 } : Room) := ⟨_, rfl⟩
  rw [show (headSpec (wz yX10_person cX10_person 3 (some .int)) { frames := 2, cells := 0, slots := 0, locals := 46 }).room = R from hR.symm]
  refine ti_mi hx hb hr hlocks (fun Q ret => ?_)
  have hl := lv_entry [.ref a0, .int x1, .int x2] (n := 3) (Nat.le_of_ble_eq_true rfl)
  rw [lg_entry_eq]
  generalize (lg_sl [.ref a0, .int x1, .int x2] ++ List.replicate (3 - (lg_sl [.ref a0, .int x1, .int x2]).length) Slot.unset).toArray = ls at hl ⊢
  have hl : lv_has ls 3 [(0, .ref a0), (1, .int x1), (2, .int x2)] := hl
  have hS : va_S (pW Y []) s.heap s.heap [] := va_S.rf
  refine lv_aload_n hx hb dX10_person_0 rfl (lv_at hl 0 rfl) ?_
  refine lv_iload_n hx hb dX10_person_1 rfl (lv_at hl 1 rfl) ?_
  refine ti_calli (va_runV (As := [.int x1]) (rest := []) ⟨hx, hb, hml, hown, hts⟩ (t_X10_isPerson l hT ha0 (iv_w hx1 (by decide)) hU) (cwV 1 hts (good_V kw_486 kw_487 kw_488 kw_5 kw_489) rfl rfl rfl (by decide +kernel) ⟨by rw [hR]; decide, by rw [hR]; decide⟩) (ti_preV hK hT ha0 rfl rfl) rfl rfl hl.1 rfl (lv_room (Nat.le_of_ble_eq_true rfl)) dX10_person_2 ⟨Nat.zero_le _, Nat.zero_le _⟩) hS (pW_sub rfl) (fun v2 H1 locs hB hS _ hk2 => ?_)
  obtain ⟨hH, hv2, hp2⟩ := hB
  rw [hH] at hS ⊢
  refine lv_if_eq (tgt := 20) hx hb dX10_person_5 (by decide) (fun c5 => ?_) (fun c5 => ?_)
  · skip
    have kl0 : (0 : Int32).toInt = 0 := by decide
    have f5 := i_eq c5
    have hv2_5l : iv v2 0 0 := iv_eql hv2 (iv_c (x := (0 : Int32)) (k := 0) (by decide)) c5 (by decide)
    refine lv_bipush (v := (-2)) hx hb dX10_person_20 (by decide) ?_
    exact ret _ _ _ _ _ dX10_person_22 (rfl) hS
  · skip
    have kl0 : (0 : Int32).toInt = 0 := by decide
    have f5 := i_ne c5
    have hv2_5l : iv v2 1 1 := iv_nel hv2 (iv_c (x := (0 : Int32)) (k := 0) (by decide)) c5 (by decide)
    have hx1_5p : iv x1 0 7 := by have b0a := (hx1).1; have b0b := (hx1).2; exact ⟨by omega, by omega⟩
    refine lv_iload_n hx hb dX10_person_8 rfl (lv_at hl 2 rfl) ?_
    refine lv_i2l hx hb dX10_person_9 rfl ?_
    refine lv_topl (fun v9 e9 => ?_)
    have hv9 : jv v9 (-2147483648) 2147483647 := by rw [e9]; exact jv_i hx2
    have t9 : v9.toInt = x2.toInt := by rw [e9]; exact jv_e _
    refine lv_lconst (v := 0) hx hb dX10_person_10 (by decide) ?_
    have kj0 : (0 : Int64).toInt = 0 := by decide
    refine lv_ldc2 (v := 3) hx hb hown (hts _ kw_485) dX10_person_11 ?_
    have kj3 : (3 : Int64).toInt = 3 := by decide
    refine ti_calli (va_runS (As := [.long v9, .long (0 : Int64), .long (3 : Int64)]) (rest := []) ⟨hx, hb, hml, hown, hts⟩ (t_X10_in l hT (jv_w hv9 (by decide)) (jv_w (jv_c (x := (0 : Int64)) (k := 0) (by decide)) (by decide)) (jv_w (jv_c (x := (3 : Int64)) (k := 3) (by decide)) (by decide))) (cwS 3 hts (good_S kw_181 kw_182 kw_5 kw_183) rfl rfl rfl (by decide +kernel) ⟨by rw [hR]; decide, by rw [hR]; decide⟩) (ti_preS hK) rfl rfl hl.1 rfl (lv_room (Nat.le_of_ble_eq_true rfl)) dX10_person_14 ⟨Nat.zero_le _, Nat.zero_le _⟩) hS (pW_sub rfl) (fun v14 H1 locs hB hS _ hk14 => ?_)
    obtain ⟨hH, hv14, hp14⟩ := hB
    rw [hH] at hS ⊢
    refine lv_if_ne (tgt := 23) hx hb dX10_person_17 (by decide) (fun c17 => ?_) (fun c17 => ?_)
    · skip
      have f17 := i_ne c17
      have hv14_17l : iv v14 1 1 := iv_nel hv14 (iv_c (x := (0 : Int32)) (k := 0) (by decide)) c17 (by decide)
      have hv9_17p : jv v9 0 3 := by have b0a := (hv9).1; have b0b := (hv9).2; have b1a := ((jv_c (x := (0 : Int64)) (k := 0) (by decide))).1; have b1b := ((jv_c (x := (0 : Int64)) (k := 0) (by decide))).2; have b2a := ((jv_c (x := (3 : Int64)) (k := 3) (by decide))).1; have b2b := ((jv_c (x := (3 : Int64)) (k := 3) (by decide))).2; exact ⟨by omega, by omega⟩
      have hx2_17p : iv x2 0 3 := by have := t9; have b0a := (hv9_17p).1; have b0b := (hv9_17p).2; have b1a := (hx2).1; have b1b := (hx2).2; exact ⟨by omega, by omega⟩
      refine lv_aload_n hx hb dX10_person_23 rfl (lv_at hl 0 rfl) ?_
      refine lv_iload_n hx hb dX10_person_24 rfl (lv_at hl 1 rfl) ?_
      refine lv_iload_n hx hb dX10_person_25 rfl (lv_at hl 2 rfl) ?_
      refine lv_iconst (v := 3) hx hb dX10_person_26 (by decide) ?_
      have J35 : ∀ (j35_S2 : Int32) (locs : List Loc) (ls : Array Slot), iv j35_S2 0 4 → va_S (pW Y []) s.heap s.heap locs → lv_has ls 3 [(0, .ref a0), (1, .int x1), (2, .int x2)] → W p l e R s m ([.ref a0, .int x1, .int x2] : List Value).toArray below meth c s.heap locs 0 0 Q (F0 m 35 ls [.int j35_S2, .int x1, .ref a0]) := by
        intro j35_S2 locs ls hj35_S2 hS hl
        refine ti_calli (va_runV (As := [.int x1, .int j35_S2]) (rest := []) ⟨hx, hb, hml, hown, hts⟩ (t_X10_of l hT ha0 (iv_w hx1_5p (by decide)) (iv_w hj35_S2 (by decide)) hU) (cwV 2 hts (good_V kw_490 kw_491 kw_492 kw_5 kw_493) rfl rfl rfl (by decide +kernel) ⟨by rw [hR]; decide, by rw [hR]; decide⟩) (ti_preV hK hT ha0 rfl rfl) rfl rfl hl.1 rfl (lv_room (Nat.le_of_ble_eq_true rfl)) dX10_person_35 ⟨Nat.zero_le _, Nat.zero_le _⟩) hS (pW_sub rfl) (fun v35 H1 locs hB hS _ hk35 => ?_)
        obtain ⟨hH, hp35⟩ := hB
        rw [hH] at hS ⊢
        exact ret _ _ _ _ _ dX10_person_38 (rfl) hS
      refine lv_icmp_ge (tgt := 34) hx hb dX10_person_27 (by decide) (fun c27 => ?_) (fun c27 => ?_)
      · skip
        have kl3 : (3 : Int32).toInt = 3 := by decide
        have f27 := i_le c27
        have hx2_27r : iv x2 3 3 := iv_ler (iv_c (x := (3 : Int32)) (k := 3) (by decide)) hx2_17p c27 (by decide)
        refine lv_iconst (v := 4) hx hb dX10_person_34 (by decide) ?_
        exact J35 (4 : Int32) _ _  (iv_w (iv_c (x := (4 : Int32)) (k := 4) (by decide)) (by decide))  hS (lv_sub hl [0, 1, 2] rfl)
      · skip
        have kl3 : (3 : Int32).toInt = 3 := by decide
        have f27 := i_nle c27
        have hx2_27l : iv x2 0 2 := iv_ltl hx2_17p (iv_c (x := (3 : Int32)) (k := 3) (by decide)) (Int32.not_le.mp c27) (by decide)
        refine lv_iload_n hx hb dX10_person_30 rfl (lv_at hl 2 rfl) ?_
        refine lv_goto (tgt := 35) hx hb dX10_person_31 (by decide) ?_
        exact J35 x2 _ _  (iv_w hx2_27l (by decide))  hS (lv_sub hl [0, 1, 2] rfl)
    · skip
      have f17 := i_eq c17
      have hv14_17l : iv v14 0 0 := iv_eql hv14 (iv_c (x := (0 : Int32)) (k := 0) (by decide)) c17 (by decide)
      refine lv_bipush (v := (-2)) hx hb dX10_person_20 (by decide) ?_
      exact ret _ _ _ _ _ dX10_person_22 (rfl) hS
set_option maxHeartbeats 4000000 in
set_option maxRecDepth 100000 in
theorem t_X10_have (l : Launch) {D : va_G} {c0 : Nat → ClassId} {Y : Nat → Option Nat} {ν : Nat → Nat} {H : Heap} (hT : TI D vwCl (tysOf c0) (RTg ν) Y H) {a0 : Nat} (ha0 : Y a0 = some 10) {x1 : Int32} (hx1 : iv x1 (-2147483648) 2147483647) {x2 : Int32} (hx2 : iv x2 (-2147483648) 2147483647) (hU : uq Y) : Met l yX10_have (wz yX10_have cX10_have 4 (some .int)) { frames := 2, cells := 0, slots := 0, locals := 82 } (TP D vwCl (tysOf c0) H [.ref a0, .int x1, .int x2]) (TQi (fun x H' => TI D vwCl (tysOf c0) (RTg ν) Y H' ∧ iv x (-2147483648) 100000) Y [30]) 0 0 (pW Y [30]) := by
  refine Met.ofW (cc := cX10_have) (maxL := 4) (ret := (some .int)) (by decide) rfl ?_
  intro p e s m args below meth c s₁ B hml hv
  obtain ⟨rfl, rfl, hK⟩ := hv
  have hx := B.exec
  have hb := B.bytes
  have hr := B.returns
  have hts : ∀ w ∈ wq, w.before _ s = true := fun w h => atoms_spec (ws := wz yX10_have cX10_have 4 (some .int)) B.pre w (List.mem_cons_of_mem _ h)
  have hown : s.vm.findClass RX10 = some m.cls := findClass_of_methodNamed B.named
  have hlocks := B.notSynchronized
  obtain ⟨R, hR⟩ : ∃ R : Room, R = ({ frames := 2, cells := 0, slots := 0, locals := 82 } : Room) := ⟨_, rfl⟩
  rw [show (headSpec (wz yX10_have cX10_have 4 (some .int)) { frames := 2, cells := 0, slots := 0, locals := 82 }).room = R from hR.symm]
  refine ti_mi hx hb hr hlocks (fun Q ret => ?_)
  have hl := lv_entry [.ref a0, .int x1, .int x2] (n := 4) (Nat.le_of_ble_eq_true rfl)
  rw [lg_entry_eq]
  generalize (lg_sl [.ref a0, .int x1, .int x2] ++ List.replicate (4 - (lg_sl [.ref a0, .int x1, .int x2]).length) Slot.unset).toArray = ls at hl ⊢
  have hl : lv_has ls 4 [(0, .ref a0), (1, .int x1), (2, .int x2)] := hl
  refine ti_gen (P := fun H => TI D vwCl (tysOf c0) (RTg ν) Y H) (Y := Y) (ws := [30]) hT (fun H locs hT hS => ?_)
  refine lv_aload_n hx hb dX10_have_0 rfl (lv_at hl 0 rfl) ?_
  refine lv_iload_n hx hb dX10_have_1 rfl (lv_at hl 1 rfl) ?_
  refine ti_calli (va_runV (As := [.int x1]) (rest := []) ⟨hx, hb, hml, hown, hts⟩ (t_X10_isPerson l hT ha0 (iv_w hx1 (by decide)) hU) (cwV 1 hts (good_V kw_486 kw_487 kw_488 kw_5 kw_489) rfl rfl rfl (by decide +kernel) ⟨by rw [hR]; decide, by rw [hR]; decide⟩) (ti_preV hK hT ha0 rfl rfl) rfl rfl hl.1 rfl (lv_room (Nat.le_of_ble_eq_true rfl)) dX10_have_2 ⟨Nat.zero_le _, Nat.zero_le _⟩) hS (pW_sub rfl) (fun v2 H1 locs hB hS _ hk2 => ?_)
  obtain ⟨hH, hv2, hp2⟩ := hB
  rw [hH] at hS ⊢
  refine lv_if_eq (tgt := 24) hx hb dX10_have_5 (by decide) (fun c5 => ?_) (fun c5 => ?_)
  · skip
    have kl0 : (0 : Int32).toInt = 0 := by decide
    have f5 := i_eq c5
    have hv2_5l : iv v2 0 0 := iv_eql hv2 (iv_c (x := (0 : Int32)) (k := 0) (by decide)) c5 (by decide)
    refine lv_bipush (v := (-2)) hx hb dX10_have_24 (by decide) ?_
    exact ret _ _ _ _ _ dX10_have_26 (⟨hT, iv_w (iv_c (x := (-2 : Int32)) (k := (-2)) (by decide)) (by decide)⟩) hS
  · skip
    have kl0 : (0 : Int32).toInt = 0 := by decide
    have f5 := i_ne c5
    have hv2_5l : iv v2 1 1 := iv_nel hv2 (iv_c (x := (0 : Int32)) (k := 0) (by decide)) c5 (by decide)
    have hx1_5p : iv x1 0 7 := by have b0a := (hx1).1; have b0b := (hx1).2; exact ⟨by omega, by omega⟩
    refine lv_iload_n hx hb dX10_have_8 rfl (lv_at hl 2 rfl) ?_
    refine lv_i2l hx hb dX10_have_9 rfl ?_
    refine lv_topl (fun v9 e9 => ?_)
    have hv9 : jv v9 (-2147483648) 2147483647 := by rw [e9]; exact jv_i hx2
    have t9 : v9.toInt = x2.toInt := by rw [e9]; exact jv_e _
    refine lv_lconst (v := 0) hx hb dX10_have_10 (by decide) ?_
    have kj0 : (0 : Int64).toInt = 0 := by decide
    refine lv_aload_n hx hb dX10_have_11 rfl (lv_at hl 0 rfl) ?_
    refine ti_getr hx hb hts inlX10 hown hK hT ha0 rfl rfl rfl 1 (by decide) (hts _ kw_130) (fun _ h9 => h9) rfl dX10_have_12 (fun v12 hv12 hm12 => ?_)
    refine lv_iconst (v := 1) hx hb dX10_have_15 (by decide) ?_
    refine ti_iald (lo := (-2147483648)) (hi := 100000) hx hb (aT0 hK) hT hv12 rfl (iv_c (x := (1 : Int32)) (k := 1) (by decide)) (by decide) (one_j 1 rfl rfl (by decide) (by decide)) dX10_have_16 (fun v16 hv16 hm16 => ?_)
    refine lv_i2l hx hb dX10_have_17 rfl ?_
    refine lv_topl (fun v17 e17 => ?_)
    have hv17 : jv v17 (-2147483648) 100000 := by rw [e17]; exact jv_i hv16
    have t17 : v17.toInt = v16.toInt := by rw [e17]; exact jv_e _
    refine ti_calli (va_runS (As := [.long v9, .long (0 : Int64), .long v17]) (rest := []) ⟨hx, hb, hml, hown, hts⟩ (t_X10_in l hT (jv_w hv9 (by decide)) (jv_w (jv_c (x := (0 : Int64)) (k := 0) (by decide)) (by decide)) (jv_w hv17 (by decide))) (cwS 3 hts (good_S kw_181 kw_182 kw_5 kw_183) rfl rfl rfl (by decide +kernel) ⟨by rw [hR]; decide, by rw [hR]; decide⟩) (ti_preS hK) rfl rfl hl.1 rfl (lv_room (Nat.le_of_ble_eq_true rfl)) dX10_have_18 ⟨Nat.zero_le _, Nat.zero_le _⟩) hS (pW_sub rfl) (fun v18 H1 locs hB hS _ hk18 => ?_)
    obtain ⟨hH, hv18, hp18⟩ := hB
    rw [hH] at hS ⊢
    refine lv_if_ne (tgt := 27) hx hb dX10_have_21 (by decide) (fun c21 => ?_) (fun c21 => ?_)
    · skip
      have f21 := i_ne c21
      have hv18_21l : iv v18 1 1 := iv_nel hv18 (iv_c (x := (0 : Int32)) (k := 0) (by decide)) c21 (by decide)
      have hv9_21p : jv v9 0 100000 := by have b0a := (hv9).1; have b0b := (hv9).2; have b1a := ((jv_c (x := (0 : Int64)) (k := 0) (by decide))).1; have b1b := ((jv_c (x := (0 : Int64)) (k := 0) (by decide))).2; have b2a := (hv17).1; have b2b := (hv17).2; exact ⟨by omega, by omega⟩
      have hx2_21p : iv x2 0 100000 := by have := t9; have b0a := (hv9_21p).1; have b0b := (hv9_21p).2; have b1a := (hx2).1; have b1b := (hx2).2; exact ⟨by omega, by omega⟩
      refine lv_aload_n hx hb dX10_have_27 rfl (lv_at hl 0 rfl) ?_
      refine lv_iload_n hx hb dX10_have_28 rfl (lv_at hl 1 rfl) ?_
      refine lv_iconst (v := 0) hx hb dX10_have_29 (by decide) ?_
      refine ti_calli (va_runV (As := [.int x1, .int (0 : Int32)]) (rest := []) ⟨hx, hb, hml, hown, hts⟩ (t_X10_of l hT ha0 (iv_w hx1_5p (by decide)) (iv_w (iv_c (x := (0 : Int32)) (k := 0) (by decide)) (by decide)) hU) (cwV 2 hts (good_V kw_490 kw_491 kw_492 kw_5 kw_493) rfl rfl rfl (by decide +kernel) ⟨by rw [hR]; decide, by rw [hR]; decide⟩) (ti_preV hK hT ha0 rfl rfl) rfl rfl hl.1 rfl (lv_room (Nat.le_of_ble_eq_true rfl)) dX10_have_30 ⟨Nat.zero_le _, Nat.zero_le _⟩) hS (pW_sub rfl) (fun v30 H1 locs hB hS _ hk30 => ?_)
      obtain ⟨hH, hp30⟩ := hB
      rw [hH] at hS ⊢
      have hf30 : iv v30 (-2147483648) 100000 := by have b0a := ((iv_top v30)).1; have b0b := ((iv_top v30)).2; exact ⟨by omega, by omega⟩
      refine lv_istore_n (lv' := [(3, .int v30), (0, .ref a0), (1, .int x1), (2, .int x2)]) hx hb dX10_have_33 rfl hl (by decide) rfl (fun ls hl => ?_)
      refine lv_aload_n hx hb dX10_have_34 rfl (lv_at hl 1 rfl) ?_
      refine lv_iload_n hx hb dX10_have_35 rfl (lv_at hl 2 rfl) ?_
      refine lv_iload_n hx hb dX10_have_36 rfl (lv_at hl 3 rfl) ?_
      refine ti_callv (va_runV (As := [.int x1, .int x2]) (rest := []) ⟨hx, hb, hml, hown, hts⟩ (t_X10_has l hT ha0 (iv_w hx1_5p (by decide)) (iv_w hx2_21p (by decide)) hU) (cwV 2 hts (good_V kw_507 kw_508 kw_509 kw_5 kw_510) rfl rfl rfl (by decide +kernel) ⟨by rw [hR]; decide, by rw [hR]; decide⟩) (ti_preV hK hT ha0 rfl rfl) rfl rfl hl.1 rfl (lv_room (Nat.le_of_ble_eq_true rfl)) dX10_have_37 ⟨Nat.zero_le _, Nat.zero_le _⟩) hS (pW_sub rfl) (fun H locs hB hS _ hk37 => ?_)
      obtain ⟨hT, hp37⟩ := hB
      refine lv_iload_n hx hb dX10_have_40 rfl (lv_at hl 0 rfl) ?_
      exact ret _ _ _ _ _ dX10_have_41 (⟨hT, iv_w hf30 (by decide)⟩) hS
    · skip
      have f21 := i_eq c21
      have hv18_21l : iv v18 0 0 := iv_eql hv18 (iv_c (x := (0 : Int32)) (k := 0) (by decide)) c21 (by decide)
      refine lv_bipush (v := (-2)) hx hb dX10_have_24 (by decide) ?_
      exact ret _ _ _ _ _ dX10_have_26 (⟨hT, iv_w (iv_c (x := (-2 : Int32)) (k := (-2)) (by decide)) (by decide)⟩) hS
set_option maxHeartbeats 4000000 in
set_option maxRecDepth 100000 in
theorem t_X10_hide (l : Launch) {D : va_G} {c0 : Nat → ClassId} {Y : Nat → Option Nat} {ν : Nat → Nat} {H : Heap} (hT : TI D vwCl (tysOf c0) (RTg ν) Y H) {a0 : Nat} (ha0 : Y a0 = some 10) {x1 : Int32} (hx1 : iv x1 (-2147483648) 2147483647) {x2 : Int32} (hx2 : iv x2 (-2147483648) 2147483647) (hU : uq Y) : Met l yX10_hide (wz yX10_hide cX10_hide 3 (some .int)) { frames := 2, cells := 0, slots := 0, locals := 60 } (TP D vwCl (tysOf c0) H [.ref a0, .int x1, .int x2]) (TQi (fun x H' => TI D vwCl (tysOf c0) (RTg ν) Y H') Y [30]) 0 0 (pW Y [30]) := by
  refine Met.ofW (cc := cX10_hide) (maxL := 3) (ret := (some .int)) (by decide) rfl ?_
  intro p e s m args below meth c s₁ B hml hv
  obtain ⟨rfl, rfl, hK⟩ := hv
  have hx := B.exec
  have hb := B.bytes
  have hr := B.returns
  have hts : ∀ w ∈ wq, w.before _ s = true := fun w h => atoms_spec (ws := wz yX10_hide cX10_hide 3 (some .int)) B.pre w (List.mem_cons_of_mem _ h)
  have hown : s.vm.findClass RX10 = some m.cls := findClass_of_methodNamed B.named
  have hlocks := B.notSynchronized
  obtain ⟨R, hR⟩ : ∃ R : Room, R = ({ frames := 2, cells := 0, slots := 0, locals := 60 } : Room) := ⟨_, rfl⟩
  rw [show (headSpec (wz yX10_hide cX10_hide 3 (some .int)) { frames := 2, cells := 0, slots := 0, locals := 60 }).room = R from hR.symm]
  refine ti_mi hx hb hr hlocks (fun Q ret => ?_)
  have hl := lv_entry [.ref a0, .int x1, .int x2] (n := 3) (Nat.le_of_ble_eq_true rfl)
  rw [lg_entry_eq]
  generalize (lg_sl [.ref a0, .int x1, .int x2] ++ List.replicate (3 - (lg_sl [.ref a0, .int x1, .int x2]).length) Slot.unset).toArray = ls at hl ⊢
  have hl : lv_has ls 3 [(0, .ref a0), (1, .int x1), (2, .int x2)] := hl
  refine ti_gen (P := fun H => TI D vwCl (tysOf c0) (RTg ν) Y H) (Y := Y) (ws := [30]) hT (fun H locs hT hS => ?_)
  refine lv_aload_n hx hb dX10_hide_0 rfl (lv_at hl 0 rfl) ?_
  refine lv_iload_n hx hb dX10_hide_1 rfl (lv_at hl 1 rfl) ?_
  refine ti_calli (va_runV (As := [.int x1]) (rest := []) ⟨hx, hb, hml, hown, hts⟩ (t_X10_isPerson l hT ha0 (iv_w hx1 (by decide)) hU) (cwV 1 hts (good_V kw_486 kw_487 kw_488 kw_5 kw_489) rfl rfl rfl (by decide +kernel) ⟨by rw [hR]; decide, by rw [hR]; decide⟩) (ti_preV hK hT ha0 rfl rfl) rfl rfl hl.1 rfl (lv_room (Nat.le_of_ble_eq_true rfl)) dX10_hide_2 ⟨Nat.zero_le _, Nat.zero_le _⟩) hS (pW_sub rfl) (fun v2 H1 locs hB hS _ hk2 => ?_)
  obtain ⟨hH, hv2, hp2⟩ := hB
  rw [hH] at hS ⊢
  refine lv_if_eq (tgt := 20) hx hb dX10_hide_5 (by decide) (fun c5 => ?_) (fun c5 => ?_)
  · skip
    have kl0 : (0 : Int32).toInt = 0 := by decide
    have f5 := i_eq c5
    have hv2_5l : iv v2 0 0 := iv_eql hv2 (iv_c (x := (0 : Int32)) (k := 0) (by decide)) c5 (by decide)
    refine lv_bipush (v := (-2)) hx hb dX10_hide_20 (by decide) ?_
    exact ret _ _ _ _ _ dX10_hide_22 (hT) hS
  · skip
    have kl0 : (0 : Int32).toInt = 0 := by decide
    have f5 := i_ne c5
    have hv2_5l : iv v2 1 1 := iv_nel hv2 (iv_c (x := (0 : Int32)) (k := 0) (by decide)) c5 (by decide)
    have hx1_5p : iv x1 0 7 := by have b0a := (hx1).1; have b0b := (hx1).2; exact ⟨by omega, by omega⟩
    refine lv_iload_n hx hb dX10_hide_8 rfl (lv_at hl 2 rfl) ?_
    refine lv_i2l hx hb dX10_hide_9 rfl ?_
    refine lv_topl (fun v9 e9 => ?_)
    have hv9 : jv v9 (-2147483648) 2147483647 := by rw [e9]; exact jv_i hx2
    have t9 : v9.toInt = x2.toInt := by rw [e9]; exact jv_e _
    refine lv_lconst (v := 0) hx hb dX10_hide_10 (by decide) ?_
    have kj0 : (0 : Int64).toInt = 0 := by decide
    refine lv_ldc2 (v := 30) hx hb hown (hts _ kw_524) dX10_hide_11 ?_
    have kj30 : (30 : Int64).toInt = 30 := by decide
    refine ti_calli (va_runS (As := [.long v9, .long (0 : Int64), .long (30 : Int64)]) (rest := []) ⟨hx, hb, hml, hown, hts⟩ (t_X10_in l hT (jv_w hv9 (by decide)) (jv_w (jv_c (x := (0 : Int64)) (k := 0) (by decide)) (by decide)) (jv_w (jv_c (x := (30 : Int64)) (k := 30) (by decide)) (by decide))) (cwS 3 hts (good_S kw_181 kw_182 kw_5 kw_183) rfl rfl rfl (by decide +kernel) ⟨by rw [hR]; decide, by rw [hR]; decide⟩) (ti_preS hK) rfl rfl hl.1 rfl (lv_room (Nat.le_of_ble_eq_true rfl)) dX10_hide_14 ⟨Nat.zero_le _, Nat.zero_le _⟩) hS (pW_sub rfl) (fun v14 H1 locs hB hS _ hk14 => ?_)
    obtain ⟨hH, hv14, hp14⟩ := hB
    rw [hH] at hS ⊢
    refine lv_if_ne (tgt := 23) hx hb dX10_hide_17 (by decide) (fun c17 => ?_) (fun c17 => ?_)
    · skip
      have f17 := i_ne c17
      have hv14_17l : iv v14 1 1 := iv_nel hv14 (iv_c (x := (0 : Int32)) (k := 0) (by decide)) c17 (by decide)
      have hv9_17p : jv v9 0 30 := by have b0a := (hv9).1; have b0b := (hv9).2; have b1a := ((jv_c (x := (0 : Int64)) (k := 0) (by decide))).1; have b1b := ((jv_c (x := (0 : Int64)) (k := 0) (by decide))).2; have b2a := ((jv_c (x := (30 : Int64)) (k := 30) (by decide))).1; have b2b := ((jv_c (x := (30 : Int64)) (k := 30) (by decide))).2; exact ⟨by omega, by omega⟩
      have hx2_17p : iv x2 0 30 := by have := t9; have b0a := (hv9_17p).1; have b0b := (hv9_17p).2; have b1a := (hx2).1; have b1b := (hx2).2; exact ⟨by omega, by omega⟩
      refine lv_aload_n hx hb dX10_hide_23 rfl (lv_at hl 0 rfl) ?_
      refine lv_iload_n hx hb dX10_hide_24 rfl (lv_at hl 1 rfl) ?_
      refine lv_iconst (v := 1) hx hb dX10_hide_25 (by decide) ?_
      refine lv_iload_n hx hb dX10_hide_26 rfl (lv_at hl 2 rfl) ?_
      refine lv_aload_n hx hb dX10_hide_27 rfl (lv_at hl 0 rfl) ?_
      refine lv_iload_n hx hb dX10_hide_28 rfl (lv_at hl 1 rfl) ?_
      refine lv_iconst (v := 0) hx hb dX10_hide_29 (by decide) ?_
      refine ti_calli (va_runV (As := [.int x1, .int (0 : Int32)]) (rest := [.int x2, .int (1 : Int32), .int x1, .ref a0]) ⟨hx, hb, hml, hown, hts⟩ (t_X10_of l hT ha0 (iv_w hx1_5p (by decide)) (iv_w (iv_c (x := (0 : Int32)) (k := 0) (by decide)) (by decide)) hU) (cwV 2 hts (good_V kw_490 kw_491 kw_492 kw_5 kw_493) rfl rfl rfl (by decide +kernel) ⟨by rw [hR]; decide, by rw [hR]; decide⟩) (ti_preV hK hT ha0 rfl rfl) rfl rfl hl.1 rfl (lv_room (Nat.le_of_ble_eq_true rfl)) dX10_hide_30 ⟨Nat.zero_le _, Nat.zero_le _⟩) hS (pW_sub rfl) (fun v30 H1 locs hB hS _ hk30 => ?_)
      obtain ⟨hH, hp30⟩ := hB
      rw [hH] at hS ⊢
      have hf30 : iv v30 (-2147483648) 100000 := by have b0a := ((iv_top v30)).1; have b0b := ((iv_top v30)).2; exact ⟨by omega, by omega⟩
      refine va_mmin hx hb (by rw [hml]; exact hl.1.symm) hown (hts _ kw_394) (hts _ kw_211) (hts _ kw_212) (hts _ kw_213) (by rw [hR]; decide) (by rw [hR]; exact Nat.le_of_ble_eq_true rfl) (Nat.zero_le _) (Nat.zero_le _) dX10_hide_33 ?_
      refine lv_topi (fun v33 e33 => ?_)
      have hv33 : iv v33 (-2147483648) 30 := by rw [e33]; exact iv_min hx2_17p hf30 (by decide)
      refine ti_callv (va_runV (As := [.int x1, .int (1 : Int32), .int v33]) (rest := []) ⟨hx, hb, hml, hown, hts⟩ (t_X10_set l hT ha0 (iv_w hx1_5p (by decide)) (iv_w (iv_c (x := (1 : Int32)) (k := 1) (by decide)) (by decide)) (iv_w hv33 (by decide)) (fun h9 => by have b0a := (hx1_5p).1; have b0b := (hx1_5p).2; have b1a := (hv33).1; have b1b := (hv33).2; omega) hU) (cwV 3 hts (good_V kw_511 kw_512 kw_513 kw_5 kw_514) rfl rfl rfl (by decide +kernel) ⟨by rw [hR]; decide, by rw [hR]; decide⟩) (ti_preV hK hT ha0 rfl rfl) rfl rfl hl.1 rfl (lv_room (Nat.le_of_ble_eq_true rfl)) dX10_hide_36 ⟨Nat.zero_le _, Nat.zero_le _⟩) hS (pW_sub rfl) (fun H locs hB hS _ hk36 => ?_)
      obtain ⟨hT, hp36⟩ := hB
      refine lv_aload_n hx hb dX10_hide_39 rfl (lv_at hl 0 rfl) ?_
      refine lv_iload_n hx hb dX10_hide_40 rfl (lv_at hl 1 rfl) ?_
      refine lv_iconst (v := 1) hx hb dX10_hide_41 (by decide) ?_
      refine ti_calli (va_runV (As := [.int x1, .int (1 : Int32)]) (rest := []) ⟨hx, hb, hml, hown, hts⟩ (t_X10_of l hT ha0 (iv_w hx1_5p (by decide)) (iv_w (iv_c (x := (1 : Int32)) (k := 1) (by decide)) (by decide)) hU) (cwV 2 hts (good_V kw_490 kw_491 kw_492 kw_5 kw_493) rfl rfl rfl (by decide +kernel) ⟨by rw [hR]; decide, by rw [hR]; decide⟩) (ti_preV hK hT ha0 rfl rfl) rfl rfl hl.1 rfl (lv_room (Nat.le_of_ble_eq_true rfl)) dX10_hide_42 ⟨Nat.zero_le _, Nat.zero_le _⟩) hS (pW_sub rfl) (fun v42 H1 locs hB hS _ hk42 => ?_)
      obtain ⟨hH, hp42⟩ := hB
      rw [hH] at hS ⊢
      have kl1 : (1 : Int32).toInt = 1 := by decide
      exact ret _ _ _ _ _ dX10_hide_45 (hT) hS
    · skip
      have f17 := i_eq c17
      have hv14_17l : iv v14 0 0 := iv_eql hv14 (iv_c (x := (0 : Int32)) (k := 0) (by decide)) c17 (by decide)
      refine lv_bipush (v := (-2)) hx hb dX10_hide_20 (by decide) ?_
      exact ret _ _ _ _ _ dX10_hide_22 (hT) hS
set_option maxHeartbeats 4000000 in
set_option maxRecDepth 100000 in
theorem t_X10_seen (l : Launch) {D : va_G} {c0 : Nat → ClassId} {Y : Nat → Option Nat} {ν : Nat → Nat} {H : Heap} (hT : TI D vwCl (tysOf c0) (RTg ν) Y H) {a0 : Nat} (ha0 : Y a0 = some 10) {x1 : Int32} (hx1 : iv x1 (-2147483648) 2147483647) {x2 : Int32} (hx2 : iv x2 (-2147483648) 2147483647) (hU : uq Y) : Met l yX10_seen (wz yX10_seen cX10_seen 3 (some .int)) { frames := 3, cells := 0, slots := 0, locals := 68 } (TP D vwCl (tysOf c0) H [.ref a0, .int x1, .int x2]) (TQi (fun x H' => H' = H) Y []) 0 0 (pW Y []) := by
  refine Met.ofW (cc := cX10_seen) (maxL := 3) (ret := (some .int)) (by decide) rfl ?_
  intro p e s m args below meth c s₁ B hml hv
  obtain ⟨rfl, rfl, hK⟩ := hv
  have hx := B.exec
  have hb := B.bytes
  have hr := B.returns
  have hts : ∀ w ∈ wq, w.before _ s = true := fun w h => atoms_spec (ws := wz yX10_seen cX10_seen 3 (some .int)) B.pre w (List.mem_cons_of_mem _ h)
  have hown : s.vm.findClass RX10 = some m.cls := findClass_of_methodNamed B.named
  have hlocks := B.notSynchronized
  obtain ⟨R, hR⟩ : ∃ R : Room, R = ({ frames := 3, cells := 0, slots := 0, locals := 68 } : Room) := ⟨_, rfl⟩
  rw [show (headSpec (wz yX10_seen cX10_seen 3 (some .int)) { frames := 3, cells := 0, slots := 0, locals := 68 }).room = R from hR.symm]
  refine ti_mi hx hb hr hlocks (fun Q ret => ?_)
  have hl := lv_entry [.ref a0, .int x1, .int x2] (n := 3) (Nat.le_of_ble_eq_true rfl)
  rw [lg_entry_eq]
  generalize (lg_sl [.ref a0, .int x1, .int x2] ++ List.replicate (3 - (lg_sl [.ref a0, .int x1, .int x2]).length) Slot.unset).toArray = ls at hl ⊢
  have hl : lv_has ls 3 [(0, .ref a0), (1, .int x1), (2, .int x2)] := hl
  have hS : va_S (pW Y []) s.heap s.heap [] := va_S.rf
  refine lv_aload_n hx hb dX10_seen_0 rfl (lv_at hl 0 rfl) ?_
  refine lv_iload_n hx hb dX10_seen_1 rfl (lv_at hl 1 rfl) ?_
  refine lv_iload_n hx hb dX10_seen_2 rfl (lv_at hl 2 rfl) ?_
  refine ti_calli (va_runV (As := [.int x1, .int x2]) (rest := []) ⟨hx, hb, hml, hown, hts⟩ (t_X10_areTwo l hT ha0 (iv_w hx1 (by decide)) (iv_w hx2 (by decide)) hU) (cwV 2 hts (good_V kw_545 kw_546 kw_547 kw_5 kw_548) rfl rfl rfl (by decide +kernel) ⟨by rw [hR]; decide, by rw [hR]; decide⟩) (ti_preV hK hT ha0 rfl rfl) rfl rfl hl.1 rfl (lv_room (Nat.le_of_ble_eq_true rfl)) dX10_seen_3 ⟨Nat.zero_le _, Nat.zero_le _⟩) hS (pW_sub rfl) (fun v3 H1 locs hB hS _ hk3 => ?_)
  obtain ⟨hH, hv3, hp3⟩ := hB
  rw [hH] at hS ⊢
  refine lv_if_eq (tgt := 18) hx hb dX10_seen_6 (by decide) (fun c6 => ?_) (fun c6 => ?_)
  · skip
    have kl0 : (0 : Int32).toInt = 0 := by decide
    have f6 := i_eq c6
    have hv3_6l : iv v3 0 0 := iv_eql hv3 (iv_c (x := (0 : Int32)) (k := 0) (by decide)) c6 (by decide)
    refine lv_bipush (v := (-2)) hx hb dX10_seen_18 (by decide) ?_
    exact ret _ _ _ _ _ dX10_seen_20 (rfl) hS
  · skip
    have kl0 : (0 : Int32).toInt = 0 := by decide
    have f6 := i_ne c6
    have hv3_6l : iv v3 1 1 := iv_nel hv3 (iv_c (x := (0 : Int32)) (k := 0) (by decide)) c6 (by decide)
    have hx1_6p : iv x1 0 7 := by have b0a := (hx1).1; have b0b := (hx1).2; exact ⟨by omega, by omega⟩
    have hx2_6p : iv x2 0 7 := by have b0a := (hx2).1; have b0b := (hx2).2; exact ⟨by omega, by omega⟩
    refine lv_aload_n hx hb dX10_seen_9 rfl (lv_at hl 0 rfl) ?_
    refine lv_iload_n hx hb dX10_seen_10 rfl (lv_at hl 1 rfl) ?_
    refine lv_iload_n hx hb dX10_seen_11 rfl (lv_at hl 2 rfl) ?_
    refine ti_calli (va_runV (As := [.int x1, .int x2]) (rest := []) ⟨hx, hb, hml, hown, hts⟩ (t_X10_sees l hT ha0 (iv_w hx1_6p (by decide)) (iv_w hx2_6p (by decide)) hU) (cwV 2 hts (good_V kw_549 kw_550 kw_551 kw_5 kw_552) rfl rfl rfl (by decide +kernel) ⟨by rw [hR]; decide, by rw [hR]; decide⟩) (ti_preV hK hT ha0 rfl rfl) rfl rfl hl.1 rfl (lv_room (Nat.le_of_ble_eq_true rfl)) dX10_seen_12 ⟨Nat.zero_le _, Nat.zero_le _⟩) hS (pW_sub rfl) (fun v12 H1 locs hB hS _ hk12 => ?_)
    have hH := hB
    rw [hH] at hS ⊢
    refine lv_goto (tgt := 20) hx hb dX10_seen_15 (by decide) ?_
    exact ret _ _ _ _ _ dX10_seen_20 (rfl) hS
