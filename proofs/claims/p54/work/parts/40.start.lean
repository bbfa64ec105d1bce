set_option maxHeartbeats 8000000 in
set_option maxRecDepth 100000 in
theorem whole_start {p : Program} {e : Env} {s : State} {m : MethodId} {below : List Frame} {meth : Method} {c : Code} (l : Launch) {b L : Nat} {xs : Nat → Int32} (hL : L ≤ 3072) (C0 : lw_At p s m meth c b L xs) : W p l e room_1 s m #[Value.ref b] below meth c s.heap [] 0 0 (lw_Z below #[Value.ref b] s) (entryFrame m ([Value.ref b] : List Value).toArray 4) := by
  obtain ⟨hx, hb, hr, hml, hown, hts0, hX, hbl, hlocks, hgv⟩ := C0
  have hown : s.vm.findClass RL = some m.cls := hown
  have hts : ∀ w ∈ wq, w.before #[Value.ref b] s = true := fun w h => hts0 w (wq_in w h)
  have hA : ∀ q : Nat, s.heap.size ≤ q → (fun q : Nat => s.heap.size ≤ q) q := fun _ h => h
  have hbA : ¬ (fun q : Nat => s.heap.size ≤ q) b := Nat.not_le.mpr hbl
  obtain ⟨k0, i0, hn0⟩ := u_known (C := RX0) (T := TX0) (N := 5) (n := 5) hts inlX0 (hts _ kw_57)
  obtain ⟨k1, i1, hn1⟩ := u_known (C := RX1) (T := TX1) (N := 4) (n := 4) hts inlX1 (hts _ kw_61)
  obtain ⟨k2, i2, hn2⟩ := u_known (C := RX2) (T := TX2) (N := 9) (n := 9) hts inlX2 (hts _ kw_32)
  obtain ⟨k3, i3, hn3⟩ := u_known (C := RX3) (T := TX3) (N := 10) (n := 10) hts inlX3 (hts _ kw_67)
  obtain ⟨k4, i4, hn4⟩ := u_known (C := RX4) (T := TX4) (N := 11) (n := 11) hts inlX4 (hts _ kw_28)
  obtain ⟨k5, i5, hn5⟩ := u_known (C := RX5) (T := TX5) (N := 4) (n := 4) hts inlX5 (hts _ kw_42)
  obtain ⟨k6, i6, hn6⟩ := u_known (C := RX6) (T := TX6) (N := 12) (n := 12) hts inlX6 (hts _ kw_14)
  obtain ⟨k7, i7, hn7⟩ := u_known (C := RX7) (T := TX7) (N := 10) (n := 10) hts inlX7 (hts _ kw_18)
  obtain ⟨k8, i8, hn8⟩ := u_known (C := RX8) (T := TX8) (N := 5) (n := 5) hts inlX8 (hts _ kw_36)
  obtain ⟨k9, i9, hn9⟩ := u_known (C := RX9) (T := TX9) (N := 11) (n := 11) hts inlX9 (hts _ kw_1)
  obtain ⟨k10, i10, hn10⟩ := u_known (C := RX10) (T := TX10) (N := 38) (n := 38) hts inlX10 (hts _ kw_4)
  obtain ⟨D, hKc⟩ : ∃ D : va_G, ∀ (k : Nat) (q : vw_C), vwCl[k]? = some q → u_Kn s q.1 q.2.1 q.2.2 (D.1 k) (D.2 k) := by
    refine ⟨(fun k => match k with | 0 => k0 | 1 => k1 | 2 => k2 | 3 => k3 | 4 => k4 | 5 => k5 | 6 => k6 | 7 => k7 | 8 => k8 | 9 => k9 | _ => k10, fun k => match k with | 0 => i0 | 1 => i1 | 2 => i2 | 3 => i3 | 4 => i4 | 5 => i5 | 6 => i6 | 7 => i7 | 8 => i8 | 9 => i9 | _ => i10), ?_⟩
    intro k q hq
    match k, hq with
    | 0, hq => cases hq; exact hn0
    | 1, hq => cases hq; exact hn1
    | 2, hq => cases hq; exact hn2
    | 3, hq => cases hq; exact hn3
    | 4, hq => cases hq; exact hn4
    | 5, hq => cases hq; exact hn5
    | 6, hq => cases hq; exact hn6
    | 7, hq => cases hq; exact hn7
    | 8, hq => cases hq; exact hn8
    | 9, hq => cases hq; exact hn9
    | 10, hq => cases hq; exact hn10
    | k + 11, hq => simp [vwCl] at hq
  have hN : nwA s := ⟨fun w hw => nestL_on w hw (hts0 w (nestL_in w hw)), va_AO.of (hts0 _ ao4_in), va_AO.of (hts0 _ ao5_in), va_AO.of (hts0 _ ao6_in)⟩
  obtain ⟨c0, hc0⟩ := law_arrs (hts _ kw_39) (hts _ kw_47) (hts _ kw_23) (hts _ kw_124) hN.2.1 hN.2.2.1 hN.2.2.2
  have hK : va_K D vwCl (tysOf c0) s := ⟨hKc, hc0⟩
  have hS : va_S (fun q : Nat => s.heap.size ≤ q) s.heap s.heap [] := va_S.rf
  have hl := lv_entry [.ref b] (n := 4) (Nat.le_of_ble_eq_true rfl)
  rw [lg_entry_eq]
  generalize (lg_sl [.ref b] ++ List.replicate (4 - (lg_sl [.ref b]).length) Slot.unset).toArray = ls at hl ⊢
  have hl : lv_has ls 4 [(0, .ref b)] := hl
  refine ti_newR (ci := 9) (fs := [.null, .null, .null, .null, .null, .null, .null, .null, .null, .null, .null]) (C := RX9) (T := TX9) (N := 11) hx hb hts inlX9 tyX9 tyX9_ok hown (hts _ kw_0) (hts _ kw_1) (hts _ kw_2) hK hS rfl (fun j hj => by rcases (show j = 0 ∨ j = 1 ∨ j = 2 ∨ j = 3 ∨ j = 4 ∨ j = 5 ∨ j = 6 ∨ j = 7 ∨ j = 8 ∨ j = 9 ∨ j = 10 by omega) with rfl | rfl | rfl | rfl | rfl | rfl | rfl | rfl | rfl | rfl | rfl <;> rfl) (by decide) (by decide) dL_law_0 (fun o1 H1 ho hP hz _ hS => ?_)
  have hlo : s.heap.size ≤ o1 := by rw [ho]; exact Nat.le_refl _
  have hsz : s.heap.size ≤ H1.size := hS.1
  refine W.widen (k := 1) (n := 11) (by omega) (by omega) ?_
  refine lv_dup hx hb dL_law_3 rfl ?_
  refine nq_call (va_runI (As := []) (rest := [.ref o1]) ⟨hx, hb, hml, hown, hts⟩ (n_X9_init l hP) (cwI 0 hts (wz_good kw_9) rfl rfl rfl (hts _ kw_2) (hts _ kw_7) (hts _ kw_8) rfl (by decide +kernel) ⟨by decide, by decide⟩) (np_pre hK hN) rfl rfl hl.1 rfl (lv_room (Nat.le_of_ble_eq_true rfl)) dL_law_4 ⟨by decide, by decide⟩) hS (law_A hlo hsz) (fun H2 locs hB hS hk1 => ?_)
  obtain ⟨Y1, hT1, hy1, hA1⟩ := hB
  have hA1 : ∀ q, pA Y1 q → s.heap.size ≤ q := fun q h => law_A hlo hsz q (hA1 q h)
  refine W.widen (k := 163) (n := 3571) (by omega) (by omega) ?_
  clear hP hk1 ho hz hlo hsz
  generalize H2 = H at hT1 hS ⊢
  refine lv_astore_n (lv' := [(1, .ref o1), (0, .ref b)]) hx hb dL_law_7 rfl hl (by decide) rfl (fun ls hl => ?_)
  have hle : s.heap.size ≤ H.size := hS.1
  refine ti_newR (ci := 10) (fs := [.int 0, .null, .null, .null, .null, .null, .int 0, .null, .int 0, .int 0, .int 0, .int 0, .int 0, .int 0, .int 0, .null, .long 0, .null, .null, .int 0, .null, .null, .int 0, .int 0, .null, .null, .null, .int 0, .null, .null, .null, .null, .null, .null, .null, .null, .null, .null]) (C := RX10) (T := TX10) (N := 38) hx hb hts inlX10 tyX10 tyX10_ok hown (hts _ kw_3) (hts _ kw_4) (hts _ kw_5) hK hS rfl (fun j hj => by rcases (show j = 0 ∨ j = 1 ∨ j = 2 ∨ j = 3 ∨ j = 4 ∨ j = 5 ∨ j = 6 ∨ j = 7 ∨ j = 8 ∨ j = 9 ∨ j = 10 ∨ j = 11 ∨ j = 12 ∨ j = 13 ∨ j = 14 ∨ j = 15 ∨ j = 16 ∨ j = 17 ∨ j = 18 ∨ j = 19 ∨ j = 20 ∨ j = 21 ∨ j = 22 ∨ j = 23 ∨ j = 24 ∨ j = 25 ∨ j = 26 ∨ j = 27 ∨ j = 28 ∨ j = 29 ∨ j = 30 ∨ j = 31 ∨ j = 32 ∨ j = 33 ∨ j = 34 ∨ j = 35 ∨ j = 36 ∨ j = 37 by omega) with rfl | rfl | rfl | rfl | rfl | rfl | rfl | rfl | rfl | rfl | rfl | rfl | rfl | rfl | rfl | rfl | rfl | rfl | rfl | rfl | rfl | rfl | rfl | rfl | rfl | rfl | rfl | rfl | rfl | rfl | rfl | rfl | rfl | rfl | rfl | rfl | rfl | rfl <;> rfl) (by decide) (by decide) dL_law_8 (fun o2 H1 ho hP hz hk0 hS => ?_)
  have hlt1 : ∀ q, pA Y1 q → q < o2 := fun q h => by
    obtain ⟨r, h⟩ := h
    rw [ho]
    exact ti_lt (hT1 q r h)
  have hT1 : TI D vwCl (tysOf c0) (RTg (fun _ => 0)) Y1 H1 := fun a r ha => (hT1 a r ha).kept (hk0 a (ti_lt (hT1 a r ha)))
  have hlo : s.heap.size ≤ o2 := by rw [ho]; exact hle
  have hsz : s.heap.size ≤ H1.size := hS.1
  have ho2 : o2 ≤ H1.size := by rw [ho, hz]; exact Nat.le_succ _
  refine W.widen (k := 164) (n := 3609) (by omega) (by omega) ?_
  refine lv_dup hx hb dL_law_11 rfl ?_
  refine nq_call (va_runI (As := []) (rest := [.ref o2]) ⟨hx, hb, hml, hown, hts⟩ (n_X10_init l hP) (cwI 0 hts (wz_good kw_128) rfl rfl rfl (hts _ kw_5) (hts _ kw_126) (hts _ kw_127) rfl (by decide +kernel) ⟨by decide, by decide⟩) (np_pre hK hN) rfl rfl hl.1 rfl (lv_room (Nat.le_of_ble_eq_true rfl)) dL_law_12 ⟨by decide, by decide⟩) hS (law_A hlo hsz) (fun H2 locs hB hS hk1 => ?_)
  obtain ⟨Y2, hT2, hy2, hU, hA2⟩ := hB
  have hge2 : ∀ q, pA Y2 q → o2 ≤ q := fun q h => law_A (Nat.le_refl o2) ho2 q (hA2 q h)
  have hA2 : ∀ q, pA Y2 q → s.heap.size ≤ q := fun q h => Nat.le_trans hlo (hge2 q h)
  have hT1 : TI D vwCl (tysOf c0) (RTg (fun _ => 0)) Y1 H2 := fun a r ha => (hT1 a r ha).kept (hk1 a (ti_lt (hT1 a r ha)) (fun z => absurd (law_A (Nat.le_refl o2) ho2 a z) (Nat.not_le.mpr (hlt1 a ⟨r, ha⟩))))
  have hdis : ∀ q, pA Y1 q → pA Y2 q → False := fun q h1 h2 => absurd (hge2 q h2) (Nat.not_le.mpr (hlt1 q h1))
  refine W.widen (k := 188) (n := 7230) (by omega) (by omega) ?_
  refine lv_astore_n (lv' := [(2, .ref o2), (1, .ref o1), (0, .ref b)]) hx hb dL_law_15 rfl hl (by decide) rfl (fun ls hl => ?_)
  obtain ⟨adK, adV, hSO⟩ := law_strs hgv hts0
  refine lv_iconst (v := 0) hx hb dL_law_16 (by decide) ?_
  refine lv_istore_n (lv' := [(3, .int 0), (2, .ref o2), (1, .ref o1), (0, .ref b)]) hx hb dL_law_17 rfl hl (by decide) rfl (fun ls hl => ?_)
  exact law_loop l hL hx hb hr hml hown hts hX hbl hlocks hK hSO hdis hU hy1 hA1 hy2 hA2 _ 0 (fun _ => 0) H2 locs ls (Nat.lt_succ_self _) (iv_w (iv_c (x := (0 : Int32)) (k := 0) (by decide)) (by decide)) hT1 hT2 ⟨rfl, rfl, rfl, fun _ _ => Nat.zero_le _⟩ hS hl
