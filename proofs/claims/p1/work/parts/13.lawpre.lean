theorem yl_dis {A : Nat → Prop} {w1 w2 : va_W} {r1 r2 : List Nat} (hD : va_D A (w1 ++ w2)) : ∀ q, pA (yl w1 r1) q → pA (yl w2 r2) q → False := by
  intro q h h'
  obtain ⟨r, h⟩ := h
  obtain ⟨r', h'⟩ := h'
  obtain ⟨k, e, h1, -⟩ := yl_inv h
  obtain ⟨k', e', h2, -⟩ := yl_inv h'
  have l1 : k < w1.length := (List.getElem?_eq_some_iff.mp h1).1
  have g1 : (w1 ++ w2)[k]? = some (q, e) := by rw [List.getElem?_append_left l1]; exact h1
  have g2 : (w1 ++ w2)[w1.length + k']? = some (q, e') := by rw [List.getElem?_append_right (by omega), Nat.add_sub_cancel_left]; exact h2
  have := hD.1 _ _ _ _ g1 g2 rfl
  omega
theorem ti_lt {D : va_G} {cl : List vw_C} {tys : List (ClassId × FieldType)} {Y : Nat → Option Nat} {sp : tsp} {a : Nat} {H : Heap} (h : ti_c D cl tys Y sp a H) : a < H.size := by
  cases sp with
  | inl o =>
    obtain ⟨fs, h1, -⟩ := h
    exact h1.lt
  | inr x =>
    obtain ⟨cA, ty, g, -, h2, -⟩ := h
    exact (Array.getElem?_eq_some_iff.mp h2).1
theorem TI.frame {D : va_G} {cl : List vw_C} {tys : List (ClassId × FieldType)} {RT : Nat → tsp} {Y1 Y2 : Nat → Option Nat} {H H1 : Heap} (hT : TI D cl tys RT Y2 H) (hdis : ∀ q, pA Y1 q → pA Y2 q → False) (hk : ∀ q : Nat, q < H.size → ¬ pA Y1 q → H1[q]? = H[q]?) : TI D cl tys RT Y2 H1 := fun a r ha => (hT a r ha).kept (hk a (ti_lt (hT a r ha)) (fun z => hdis a z ⟨r, ha⟩))
theorem wf1_w {Y : Nat → Option Nat} (j : Nat) {v : Value} (h : gm Y (wf1 false j) v) : gm Y (wf1 true j) v := by
  unfold wf1 at h ⊢
  by_cases h1 : j < 16
  · rw [if_pos h1] at h ⊢
    by_cases h3 : j = 3
    · rw [if_pos h3] at h ⊢
      obtain ⟨x, hx, h4⟩ := h
      exact ⟨x, hx, iv_w (show iv x 2 2 from h4) (by decide)⟩
    · rw [if_neg h3] at h ⊢
      exact h
  · rw [if_neg h1] at h ⊢
    exact h
theorem RT1_weak {D : va_G} {cl : List vw_C} {tys : List (ClassId × FieldType)} {Y : Nat → Option Nat} {H : Heap} (hT : TI D cl tys (RT1 false) Y H) : TI D cl tys (RT1 true) Y H := by
  intro a r ha
  have h := hT a r ha
  by_cases h5 : r = 5
  · subst h5
    obtain ⟨fs, h1, h2, h3⟩ := h
    refine ⟨fs, h1, h2, fun k t hk => ?_⟩
    match k, hk with
    | 0, hk =>
      cases hk
      obtain ⟨v, g1, x, g2, g3⟩ := h3 0 _ rfl
      exact ⟨v, g1, x, g2, iv_w (show iv x 0 0 from g3) (by decide)⟩
    | 1, hk => exact h3 1 _ hk
    | 2, hk => exact h3 2 _ hk
    | 3, hk => exact h3 3 _ hk
    | k + 4, hk => simp [RT1] at hk
  · by_cases h24 : r = 24
    · subst h24
      obtain ⟨cA, ty, g, h1, h2, h3⟩ := h
      refine ⟨cA, ty, g, h1, h2, fun j hj => ?_⟩
      obtain ⟨x, g2, g3⟩ := h3 j hj
      exact ⟨x, g2, iv_w (show iv x 0 0 from g3) (by decide)⟩
    · by_cases h33 : r = 33
      · subst h33
        obtain ⟨cA, ty, g, h1, h2, h3⟩ := h
        refine ⟨cA, ty, g, h1, h2, fun j hj => ?_⟩
        obtain ⟨x, g2, g3⟩ := h3 j hj
        exact ⟨x, g2, iv_w (show iv x 0 0 from g3) (by decide)⟩
      · by_cases h37 : r = 37
        · subst h37
          obtain ⟨cA, ty, g, h1, h2, h3⟩ := h
          refine ⟨cA, ty, g, h1, h2, fun j hj => ?_⟩
          obtain ⟨x, g2, g3⟩ := h3 j hj
          exact ⟨x, g2, iv_w (show iv x (-1) (-1) from g3) (by decide)⟩
        · by_cases h30 : r = 30
          · subst h30
            obtain ⟨cA, ty, g, h1, h2, h3⟩ := h
            exact ⟨cA, ty, g, h1, h2, fun j hj => wf1_w j (h3 j hj)⟩
          · have e : RT1 true r = RT1 false r := by
              unfold RT1
              split <;> first | rfl | contradiction
            rw [e]
            exact h
/-- feed's three cells out of the types -/
theorem ti_feed {D : va_G} {c0 : Nat → ClassId} {Y : Nat → Option Nat} {H : Heap} {a : Nat} (hT : TI D vwCl (tysOf c0) (RT1 false) Y H) (ha : Y a = some 9) : ∃ (h1 h2 : Nat) (z1 z2 z3 z4 z5 z6 z7 z8 z9 z10 zz2 zz3 zz4 zz5 zz6 zz7 zz8 zz9 zz10 zz11 : Value) (g0 : Nat → Int32), va_P D vwCl [(a, .inr (9, [.ref h1, z1, z2, z3, z4, z5, z6, z7, z8, z9, z10])), (h1, .inr (6, [.ref h2, .int 0, zz2, zz3, zz4, zz5, zz6, zz7, zz8, zz9, zz10, zz11])), (h2, .inl (c0 1, 1600, .inl g0))] H ∧ va_D (pA Y) [(a, .inr (9, [.ref h1, z1, z2, z3, z4, z5, z6, z7, z8, z9, z10])), (h1, .inr (6, [.ref h2, .int 0, zz2, zz3, zz4, zz5, zz6, zz7, zz8, zz9, zz10, zz11])), (h2, .inl (c0 1, 1600, .inl g0))] := by
  obtain ⟨fs, p1, l1, f1⟩ := ti_obj hT ha (ci := 9) rfl
  obtain ⟨v, e1, h1, rfl, y1⟩ := f1 0 _ rfl
  match fs, l1, e1 with
  | [w0, z1, z2, z3, z4, z5, z6, z7, z8, z9, z10], _, e1 =>
    cases e1
    obtain ⟨gs, p2, l2, f2⟩ := ti_obj hT y1 (ci := 6) rfl
    obtain ⟨v, e2, h2, rfl, y2⟩ := f2 0 _ rfl
    obtain ⟨v, e3, x, rfl, hx⟩ := f2 1 _ rfl
    match gs, l2, e2, e3 with
    | [w0, w1, zz2, zz3, zz4, zz5, zz6, zz7, zz8, zz9, zz10, zz11], _, e2, e3 =>
      cases e2
      cases e3
      have x0 : x = 0 := Int32.toInt_inj.mp (by obtain ⟨a1, a2⟩ := (show iv x 0 0 from hx); have : (0 : Int32).toInt = 0 := by decide
                                                omega)
      subst x0
      obtain ⟨cA, ty, g, t1, p3, f3⟩ := ti_arr hT y2 (t := 1) rfl
      cases t1
      obtain ⟨i0, ei⟩ := ti_ints (Y := Y) (f := fun _ => .inl (-128, 127)) (fun j hj => ⟨_, _, rfl⟩) f3
      rw [arrV_congr ei] at p3
      have d1 : a ≠ h1 := fun q => by rw [q, y1] at ha; cases ha
      have d2 : a ≠ h2 := fun q => by rw [q, y2] at ha; cases ha
      have d3 : h1 ≠ h2 := fun q => by rw [q, y2] at y1; cases y1
      refine ⟨h1, h2, z1, z2, z3, z4, z5, z6, z7, z8, z9, z10, zz2, zz3, zz4, zz5, zz6, zz7, zz8, zz9, zz10, zz11, i0, ?_, ?_, ?_⟩
      · intro k q hk
        match k, hk with
        | 0, hk => cases hk; exact p1
        | 1, hk => cases hk; exact p2
        | 2, hk => cases hk; exact p3
        | k + 3, hk => simp at hk
      · intro i j x y hi hj hxy
        match i, j, hi, hj with
        | 0, 0, _, _ => rfl
        | 1, 1, _, _ => rfl
        | 2, 2, _, _ => rfl
        | 0, 1, hi, hj => cases hi; cases hj; exact absurd hxy d1
        | 0, 2, hi, hj => cases hi; cases hj; exact absurd hxy d2
        | 1, 0, hi, hj => cases hi; cases hj; exact absurd hxy.symm d1
        | 1, 2, hi, hj => cases hi; cases hj; exact absurd hxy d3
        | 2, 0, hi, hj => cases hi; cases hj; exact absurd hxy.symm d2
        | 2, 1, hi, hj => cases hi; cases hj; exact absurd hxy.symm d3
        | k + 3, _, hi, _ => simp at hi
        | _, k + 3, _, hj => simp at hj
      · intro k q hk
        match k, hk with
        | 0, hk => cases hk; exact ⟨_, ha⟩
        | 1, hk => cases hk; exact ⟨_, y1⟩
        | 2, hk => cases hk; exact ⟨_, y2⟩
        | k + 3, hk => simp at hk
theorem nq_calli {p : Program} {l : Launch} {e : Env} {R : Room} {s : State} {m : MethodId} {args : Array Value} {below : List Frame} {meth : Method} {c : Code} {H : Heap} {locs : List Loc} {cells slots : Nat} {Q : State → Prop} {pc : Nat} {ls : Array Slot} {rest st0 : List Value} {H0 : Heap} {aa : Array Value} {mc ms : Nat} {A0 A1 : Nat → Prop} {B : Int32 → Prop} (hr : va_Run p l e R s m args below meth c H locs cells slots mc ms (F0 m pc ls st0) rest (NQi A1 B aa) A1) (hS : va_S A0 H0 H locs) (hA : ∀ q, A1 q → A0 q)
    (kk : ∀ (x : Int32) (H1 : Heap) (locs1 : List Loc), B x → va_S A0 H0 H1 locs1 → (∀ q : Nat, q < H.size → ¬ A1 q → H1[q]? = H[q]?) → W p l e R s m args below meth c H1 locs1 (cells + mc) (slots + ms) Q (F0 m (pc + 3) ls (.int x :: rest))) : W p l e R s m args below meth c H locs cells slots Q (F0 m pc ls st0) := by
  intro T hT X
  obtain ⟨v, st₀, t, T', L, h0, X', hL, e1, e2, ⟨⟨x, hv, hb⟩, hz, hk⟩, st⟩ := hr T hT X
  cases hv
  rw [h0] at hz hk
  obtain ⟨t2, a1, b1⟩ := kk x T'.heap (locs ++ L) hb ⟨Nat.le_trans hS.1 (by rw [e1]; exact hz), fun q h1 h2 => by rw [e1, hk q (Nat.lt_of_lt_of_le h1 hS.1) (fun z => h2 (hA q z))]; exact hS.2.1 q h1 h2, fun q hq => by
      rcases List.mem_append.mp hq with h | h
      · exact hS.2.2 q h
      · exact hA _ (hL q h)⟩ (fun q h1 h2 => by rw [e1]; exact hk q h1 h2) T' rfl X'
  exact ⟨t2, st t2 a1, b1⟩
theorem law_arrs {s : State} {args : Array Value} (h0 : (Cond.arrayClass .int).before args s = true) (h1 : (Cond.arrayClass .byte).before args s = true) (h2 : (Cond.arrayClass .boolean).before args s = true) (h3 : (Cond.arrayClass .long).before args s = true) (h4 : va_AO "SixStroke$Town" s) (h5 : va_AO "SixStroke$Slot" s) (h6 : va_AO "SixStroke$Person" s) : ∃ c0 : Nat → ClassId, ∀ (k : Nat) (q : ClassId × FieldType), (tysOf c0)[k]? = some q → ArrOfT s q.1 q.2 ∧ va_RA s q.1 q.2 := by
  obtain ⟨d0, k0, m0, f0, g0, e0⟩ := Cond.arrayClass_spec h0
  obtain ⟨d1, k1, m1, f1, g1, e1⟩ := Cond.arrayClass_spec h1
  obtain ⟨d2, k2, m2, f2, g2, e2⟩ := Cond.arrayClass_spec h2
  obtain ⟨d3, k3, m3, f3, g3, e3⟩ := Cond.arrayClass_spec h3
  obtain ⟨m4, d4, k4, a4, -, g4, e4, f4⟩ := Cond.arrayOver_spec h4
  obtain ⟨m5, d5, k5, a5, -, g5, e5, f5⟩ := Cond.arrayOver_spec h5
  obtain ⟨m6, d6, k6, a6, -, g6, e6, f6⟩ := Cond.arrayOver_spec h6
  refine ⟨fun k => match k with
    | 0 => d0
    | 1 => d1
    | 2 => d2
    | 3 => d3
    | 4 => d4
    | 5 => d5
    | _ => d6, ?_⟩
  intro k q hq
  match k, hq with
  | 0, hq => cases hq; exact ⟨fun n z => ⟨fun _ h => (by cases h), k0, g0, m0, e0⟩, f0⟩
  | 1, hq => cases hq; exact ⟨fun n z => ⟨fun _ h => (by cases h), k1, g1, m1, e1⟩, f1⟩
  | 2, hq => cases hq; exact ⟨fun n z => ⟨fun _ h => (by cases h), k2, g2, m2, e2⟩, f2⟩
  | 3, hq => cases hq; exact ⟨fun n z => ⟨fun _ h => (by cases h), k3, g3, m3, e3⟩, f3⟩
  | 4, hq => cases hq; exact ⟨fun n z => ⟨fun _ h => (by cases h), k4, g4, m4, e4⟩, ⟨k4, m4, g4, e4, a4, f4⟩⟩
  | 5, hq => cases hq; exact ⟨fun n z => ⟨fun _ h => (by cases h), k5, g5, m5, e5⟩, ⟨k5, m5, g5, e5, a5, f5⟩⟩
  | 6, hq => cases hq; exact ⟨fun n z => ⟨fun _ h => (by cases h), k6, g6, m6, e6⟩, ⟨k6, m6, g6, e6, a6, f6⟩⟩
  | k + 7, hq => simp [tysOf] at hq
theorem law_A {S o z : Nat} {e : va_E} (h1 : S ≤ o) (h2 : S ≤ z) : ∀ q, va_A [(o, e)] z q → S ≤ q := by
  rintro q (⟨k, x, h⟩ | h)
  · match k, h with
    | 0, h => cases h; exact h1
    | k + 1, h => simp at h
  · exact Nat.le_trans h2 h
theorem ti_newR {p : Program} {l : Launch} {e : Env} {R : Room} {s : State} {m : MethodId} {args : Array Value} {below : List Frame} {meth : Method} {c : Code} {H : Heap} {locs : List Loc} {cells slots : Nat} {Q : State → Prop} {pc : Nat} {ls : Array Slot} {rest : List Value} {H0 : Heap} {A : Nat → Prop} {cc : ByteArray} {D : va_G} {tys : List (ClassId × FieldType)} (hexec : p.tables.exec = Jvm.exec) (hb : c.code = cc) {own C : String} {T : u_T} {N ci index : Nat} {Ts : List Cond} (hts : ∀ w ∈ Ts, w.before args s = true) (hin : ∀ w ∈ u_ws C T N, w ∈ Ts) (ty : Nat → FieldType) (hty : ∀ k, k < N → parseFieldDescriptor (T k).2.2.1 = some (ty k)) (hown : s.vm.findClass own = some m.cls) (hcl : (Cond.classLink own index C).before args s = true) (hinst : (Cond.instantiable C N).before args s = true) (hini : (Cond.initialized C).before args s = true)
    (hK : va_K D vwCl tys s) (hS : va_S A H0 H locs) (hc : vwCl[ci]? = some (C, T, N)) {fs : List Value} (hfs : ∀ j, j < N → defaultValue (ty j) = vp_V fs j) (hcells : cells + 1 ≤ R.cells) (hslots : slots + N ≤ R.slots) (hdg : decode cc pc = .ok (.new index, 3))
    (kk : ∀ (q : Nat) (H1 : Heap), q = H.size → va_P D vwCl [(q, .inr (ci, fs))] H1 → H1.size = H.size + 1 → (∀ x : Nat, x < H.size → H1[x]? = H[x]?) → va_S A H0 H1 locs →
      W p l e R s m args below meth c H1 locs (cells + 1) (slots + N) Q (F0 m (pc + 3) ls (.ref q :: rest))) : W p l e R s m args below meth c H locs cells slots Q (F0 m pc ls rest) := by
  have hKn := hK.1 ci _ hc
  refine W.newcK hexec hb hown hcl hinst hini rfl hdg hcells hslots hKn.2.1 rfl fun H1 kC hkC e1 z1 o1 => ?_
  refine kk H.size H1 rfl (fun k x hx => ?_) z1 o1 ⟨Nat.le_trans hS.1 (by omega), fun x h1 h2 => (o1 x (Nat.lt_of_lt_of_le h1 hS.1)).trans (hS.2.1 x h1 h2), hS.2.2⟩
  have hz : k < 1 := (List.getElem?_eq_some_iff.mp hx).1
  rw [show k = 0 by omega] at hx
  cases hx
  exact ⟨_, hc, (u_born ty hts hin hKn hkC e1 hty).to hfs⟩
theorem nestL_in : ∀ w ∈ nestL, w ∈ lw_tbl := List.forall_mem_cons.mpr ⟨mt_1 _ (List.mem_of_getElem? (i := 28) (by decide +kernel)), List.forall_mem_cons.mpr ⟨mt_2 _ (List.mem_of_getElem? (i := 48) (by decide +kernel)), List.forall_mem_cons.mpr ⟨mt_2 _ (List.mem_of_getElem? (i := 101) (by decide +kernel)), List.forall_mem_cons.mpr ⟨mt_2 _ (List.mem_of_getElem? (i := 146) (by decide +kernel)), List.forall_mem_cons.mpr ⟨mt_2 _ (List.mem_of_getElem? (i := 173) (by decide +kernel)), List.forall_mem_cons.mpr ⟨mt_2 _ (List.mem_of_getElem? (i := 106) (by decide +kernel)), List.forall_mem_cons.mpr ⟨mt_1 _ (List.mem_of_getElem? (i := 40) (by decide +kernel)), List.forall_mem_cons.mpr ⟨mt_1 _ (List.mem_of_getElem? (i := 80) (by decide +kernel)), List.forall_mem_cons.mpr ⟨mt_1 _ (List.mem_of_getElem? (i := 109) (by decide +kernel)), List.forall_mem_cons.mpr ⟨mt_2 _ (List.mem_of_getElem? (i := 151) (by decide +kernel)), List.forall_mem_cons.mpr ⟨mt_2 _ (List.mem_of_getElem? (i := 153) (by decide +kernel)), fun _ h => absurd h List.not_mem_nil⟩⟩⟩⟩⟩⟩⟩⟩⟩⟩⟩
theorem nestL_on {A : Array Value} {s : State} : ∀ w ∈ nestL, w.before A s = true → va_Nw w s := by
  intro w hw h
  simp only [nestL, List.mem_cons, List.not_mem_nil, or_false] at hw
  rcases hw with e | e | e | e | e | e | e | e | e | e | e <;> subst e <;> exact va_Nw.of rfl h
theorem ao4_in : Cond.arrayOver (.object "SixStroke$Town") ∈ lw_tbl := mt_2 _ (List.mem_of_getElem? (i := 43) (by decide +kernel))
theorem ao5_in : Cond.arrayOver (.object "SixStroke$Slot") ∈ lw_tbl := mt_2 _ (List.mem_of_getElem? (i := 45) (by decide +kernel))
theorem ao6_in : Cond.arrayOver (.object "SixStroke$Person") ∈ lw_tbl := mt_1 _ (List.mem_of_getElem? (i := 107) (by decide +kernel))
