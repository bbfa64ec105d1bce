theorem wf1_g {b : Bool} {Y : Nat → Option Nat} {g : Nat → Int32} (hE : ∀ j : Nat, j < 16 → g j = if j = 3 then 2 else 0) (j : Nat) : gm Y (wf1 b j) (.int (g j)) := by
  unfold wf1
  by_cases h : j < 16
  · rw [if_pos h, hE j h]
    by_cases h3 : j = 3
    · rw [if_pos h3, if_pos h3]
      cases b
      · exact ⟨2, rfl, iv_w (iv_c (x := (2 : Int32)) (k := 2) (by decide)) (by decide)⟩
      · exact ⟨2, rfl, iv_w (iv_c (x := (2 : Int32)) (k := 2) (by decide)) (by decide)⟩
    · rw [if_neg h3, if_neg h3]
      exact ⟨0, rfl, iv_w (iv_c (x := (0 : Int32)) (k := 0) (by decide)) (by decide)⟩
  · rw [if_neg h]
    exact ⟨_, rfl, iv_top _⟩
theorem wf1_0 {Y : Nat → Option Nat} (j : Nat) : gm Y (wf1 true j) (.int 0) := by
  unfold wf1
  by_cases h : j < 16
  · rw [if_pos h]
    by_cases h3 : j = 3
    · rw [if_pos h3]
      exact ⟨0, rfl, iv_w (iv_c (x := (0 : Int32)) (k := 0) (by decide)) (by decide)⟩
    · rw [if_neg h3]
      exact ⟨0, rfl, iv_w (iv_c (x := (0 : Int32)) (k := 0) (by decide)) (by decide)⟩
  · rw [if_neg h]
    exact ⟨_, rfl, iv_top _⟩
theorem tc_ints {D : va_G} {cl : List vw_C} {tys : List (ClassId × FieldType)} {RT : Nat → tsp} {Y : Nat → Option Nat} {H : Heap} {q r t n : Nat} {f : Nat → tv} {cA : ClassId} {ty : FieldType} {g : Nat → Int32} (hR : RT r = .inr (t, n, f)) (ht : tys[t]? = some (cA, ty)) (h : va_at D cl (q, .inl (cA, n, .inl g)) H) (hg : ∀ j, j < n → gm Y (f j) (.int (g j))) : ti_c D cl tys Y (RT r) q H := by
  rw [hR]
  exact ⟨cA, ty, fun j => .int (g j), ht, h, hg⟩
theorem tc_longs {D : va_G} {cl : List vw_C} {tys : List (ClassId × FieldType)} {RT : Nat → tsp} {Y : Nat → Option Nat} {H : Heap} {q r t n : Nat} {f : Nat → tv} {cA : ClassId} {ty : FieldType} {g : Nat → Int64} (hR : RT r = .inr (t, n, f)) (ht : tys[t]? = some (cA, ty)) (h : va_at D cl (q, .inl (cA, n, .inr (.inl g))) H) (hg : ∀ j, j < n → gm Y (f j) (.long (g j))) : ti_c D cl tys Y (RT r) q H := by
  rw [hR]
  exact ⟨cA, ty, fun j => .long (g j), ht, h, hg⟩
theorem tc_refs {D : va_G} {cl : List vw_C} {tys : List (ClassId × FieldType)} {RT : Nat → tsp} {Y : Nat → Option Nat} {H : Heap} {q r t n : Nat} {f : Nat → tv} {cA : ClassId} {ty : FieldType} {g : Nat → Option Nat} (hR : RT r = .inr (t, n, f)) (ht : tys[t]? = some (cA, ty)) (h : va_at D cl (q, .inl (cA, n, .inr (.inr (.inr (.inr g))))) H) (hg : ∀ j, j < n → gm Y (f j) (va_rf (g j))) : ti_c D cl tys Y (RT r) q H := by
  rw [hR]
  exact ⟨cA, ty, fun j => va_rf (g j), ht, h, hg⟩
theorem tc_0 {D : va_G} {c0 : Nat → ClassId} {Y : Nat → Option Nat} {H : Heap} {q a0 a1 a2 a3 a4 a5 a6 a7 a8 a9 a10 : Nat} (h : va_at D vwCl (q, .inr (9, [.ref a0, .ref a1, .ref a2, .ref a3, .ref a4, .ref a5, .ref a6, .ref a7, .ref a8, .ref a9, .ref a10])) H) (h0 : Y a0 = some 6) (h1 : Y a1 = some 7) (h3 : Y a3 = some 23) (h4 : Y a4 = some 24) (h5 : Y a5 = some 25) : ti_c D vwCl (tysOf c0) Y (RT1 false 9) q H :=
  ⟨_, h, rfl, fun k t hk => match k, hk with
      | 0, h => by cases h; exact ⟨_, rfl, ⟨a0, rfl, h0⟩⟩
      | 1, h => by cases h; exact ⟨_, rfl, ⟨a1, rfl, h1⟩⟩
      | 2, h => by cases h; exact ⟨_, rfl, trivial⟩
      | 3, h => by cases h; exact ⟨_, rfl, ⟨a3, rfl, h3⟩⟩
      | 4, h => by cases h; exact ⟨_, rfl, ⟨a4, rfl, h4⟩⟩
      | 5, h => by cases h; exact ⟨_, rfl, ⟨a5, rfl, h5⟩⟩
      | 6, h => by cases h; exact ⟨_, rfl, trivial⟩
      | 7, h => by cases h; exact ⟨_, rfl, trivial⟩
      | 8, h => by cases h; exact ⟨_, rfl, trivial⟩
      | 9, h => by cases h; exact ⟨_, rfl, trivial⟩
      | 10, h => by cases h; exact ⟨_, rfl, trivial⟩
      | k + 11, h => by simp [RT1] at h⟩
theorem tc_1 {D : va_G} {c0 : Nat → ClassId} {Y : Nat → Option Nat} {H : Heap} {q a0 a2 : Nat} (h : va_at D vwCl (q, .inr (6, [.ref a0, .int 0, .ref a2, .int 0, .int 0, .int 0, .int 0, .int 0, .int 0, .int 0, .int 0, .int (-1)])) H) (h0 : Y a0 = some 26) (h2 : Y a2 = some 7) : ti_c D vwCl (tysOf c0) Y (RT1 false 6) q H :=
  ⟨_, h, rfl, fun k t hk => match k, hk with
      | 0, h => by cases h; exact ⟨_, rfl, ⟨a0, rfl, h0⟩⟩
      | 1, h => by cases h; exact ⟨_, rfl, ⟨0, rfl, iv_w (iv_c (x := (0 : Int32)) (k := 0) (by decide)) (by decide)⟩⟩
      | 2, h => by cases h; exact ⟨_, rfl, ⟨a2, rfl, h2⟩⟩
      | 3, h => by cases h; exact ⟨_, rfl, ⟨0, rfl, iv_w (iv_c (x := (0 : Int32)) (k := 0) (by decide)) (by decide)⟩⟩
      | 4, h => by cases h; exact ⟨_, rfl, ⟨0, rfl, iv_w (iv_c (x := (0 : Int32)) (k := 0) (by decide)) (by decide)⟩⟩
      | 5, h => by cases h; exact ⟨_, rfl, ⟨0, rfl, iv_w (iv_c (x := (0 : Int32)) (k := 0) (by decide)) (by decide)⟩⟩
      | 6, h => by cases h; exact ⟨_, rfl, ⟨0, rfl, iv_w (iv_c (x := (0 : Int32)) (k := 0) (by decide)) (by decide)⟩⟩
      | 7, h => by cases h; exact ⟨_, rfl, ⟨0, rfl, iv_w (iv_c (x := (0 : Int32)) (k := 0) (by decide)) (by decide)⟩⟩
      | 8, h => by cases h; exact ⟨_, rfl, ⟨0, rfl, iv_w (iv_c (x := (0 : Int32)) (k := 0) (by decide)) (by decide)⟩⟩
      | 9, h => by cases h; exact ⟨_, rfl, ⟨0, rfl, iv_w (iv_c (x := (0 : Int32)) (k := 0) (by decide)) (by decide)⟩⟩
      | 10, h => by cases h; exact ⟨_, rfl, ⟨0, rfl, iv_w (iv_c (x := (0 : Int32)) (k := 0) (by decide)) (by decide)⟩⟩
      | 11, h => by cases h; exact ⟨_, rfl, ⟨(-1), rfl, iv_w (iv_c (x := ((-1) : Int32)) (k := (-1)) (by decide)) (by decide)⟩⟩
      | k + 12, h => by simp [RT1] at h⟩
theorem tc_2 {D : va_G} {c0 : Nat → ClassId} {Y : Nat → Option Nat} {H : Heap} {q : Nat} (h : va_at D vwCl (q, .inl (c0 1, 1600, .inl (fun _ => 0))) H)  : ti_c D vwCl (tysOf c0) Y (RT1 false 26) q H :=
  tc_ints (RT := RT1 false) (r := 26) (ty := .byte) rfl rfl h (fun _ _ => ⟨0, rfl, iv_w (iv_c (x := (0 : Int32)) (k := 0) (by decide)) (by decide)⟩)
theorem tc_3 {D : va_G} {c0 : Nat → ClassId} {Y : Nat → Option Nat} {H : Heap} {q : Nat} (h : va_at D vwCl (q, .inl (c0 0, 6, .inl (fun _ => 0))) H)  : ti_c D vwCl (tysOf c0) Y (RT1 false 20) q H :=
  tc_ints (RT := RT1 false) (r := 20) (ty := .int) rfl rfl h (fun _ _ => ⟨_, rfl, iv_top _⟩)
theorem tc_4 {D : va_G} {c0 : Nat → ClassId} {Y : Nat → Option Nat} {H : Heap} {q : Nat} {a0 a1 a2 a3 a4 a5 a6 a7 : Nat} (h : va_at D vwCl (q, .inl (c0 6, 8, .inr (.inr (.inr (.inr (va_up (va_up (va_up (va_up (va_up (va_up (va_up (va_up (fun _ => none) 0 (some a0)) 1 (some a1)) 2 (some a2)) 3 (some a3)) 4 (some a4)) 5 (some a5)) 6 (some a6)) 7 (some a7))))))) H) (h0 : Y a0 = some 3) (h1 : Y a1 = some 3) (h2 : Y a2 = some 3) (h3 : Y a3 = some 3) (h4 : Y a4 = some 3) (h5 : Y a5 = some 3) (h6 : Y a6 = some 3) (h7 : Y a7 = some 3) : ti_c D vwCl (tysOf c0) Y (RT1 false 21) q H :=
  tc_refs (RT := RT1 false) (r := 21) (ty := (.object "SixStroke$Person")) rfl rfl h (fun j hj => match j, hj with
      | 0, _ => ⟨a0, rfl, h0⟩
      | 1, _ => ⟨a1, rfl, h1⟩
      | 2, _ => ⟨a2, rfl, h2⟩
      | 3, _ => ⟨a3, rfl, h3⟩
      | 4, _ => ⟨a4, rfl, h4⟩
      | 5, _ => ⟨a5, rfl, h5⟩
      | 6, _ => ⟨a6, rfl, h6⟩
      | 7, _ => ⟨a7, rfl, h7⟩
      | k + 8, h => absurd (show k + 8 < 8 from h) (by omega))
theorem tc_5 {D : va_G} {c0 : Nat → ClassId} {Y : Nat → Option Nat} {H : Heap} {q : Nat} (h : va_at D vwCl (q, .inr (3, [.int 0, .int 0, .int 0, .int 0, .int 0, .int 0, .int 0, .int 0, .int 0, .int 0])) H)  : ti_c D vwCl (tysOf c0) Y (RT1 false 3) q H :=
  ⟨_, h, rfl, fun k t hk => match k, hk with
      | 0, h => by cases h; exact ⟨_, rfl, ⟨0, rfl, iv_w (iv_c (x := (0 : Int32)) (k := 0) (by decide)) (by decide)⟩⟩
      | 1, h => by cases h; exact ⟨_, rfl, ⟨0, rfl, iv_w (iv_c (x := (0 : Int32)) (k := 0) (by decide)) (by decide)⟩⟩
      | 2, h => by cases h; exact ⟨_, rfl, ⟨0, rfl, iv_w (iv_c (x := (0 : Int32)) (k := 0) (by decide)) (by decide)⟩⟩
      | 3, h => by cases h; exact ⟨_, rfl, ⟨0, rfl, iv_w (iv_c (x := (0 : Int32)) (k := 0) (by decide)) (by decide)⟩⟩
      | 4, h => by cases h; exact ⟨_, rfl, ⟨0, rfl, iv_w (iv_c (x := (0 : Int32)) (k := 0) (by decide)) (by decide)⟩⟩
      | 5, h => by cases h; exact ⟨_, rfl, ⟨0, rfl, iv_w (iv_c (x := (0 : Int32)) (k := 0) (by decide)) (by decide)⟩⟩
      | 6, h => by cases h; exact ⟨_, rfl, ⟨0, rfl, iv_w (iv_c (x := (0 : Int32)) (k := 0) (by decide)) (by decide)⟩⟩
      | 7, h => by cases h; exact ⟨_, rfl, ⟨0, rfl, iv_w (iv_c (x := (0 : Int32)) (k := 0) (by decide)) (by decide)⟩⟩
      | 8, h => by cases h; exact ⟨_, rfl, ⟨0, rfl, iv_w (iv_c (x := (0 : Int32)) (k := 0) (by decide)) (by decide)⟩⟩
      | 9, h => by cases h; exact ⟨_, rfl, ⟨0, rfl, iv_w (iv_c (x := (0 : Int32)) (k := 0) (by decide)) (by decide)⟩⟩
      | k + 10, h => by simp [RT1] at h⟩
theorem tc_6 {D : va_G} {c0 : Nat → ClassId} {Y : Nat → Option Nat} {H : Heap} {q a6 a7 a8 a9 : Nat} (h : va_at D vwCl (q, .inr (7, [.int 0, .int 0, .int 0, .int 0, .int 0, .long 0, .ref a6, .ref a7, .ref a8, .ref a9])) H) (h6 : Y a6 = some 0) (h7 : Y a7 = some 1) (h8 : Y a8 = some 21) (h9 : Y a9 = some 22) : ti_c D vwCl (tysOf c0) Y (RT1 false 7) q H :=
  ⟨_, h, rfl, fun k t hk => match k, hk with
      | 0, h => by cases h; exact ⟨_, rfl, ⟨0, rfl, iv_w (iv_c (x := (0 : Int32)) (k := 0) (by decide)) (by decide)⟩⟩
      | 1, h => by cases h; exact ⟨_, rfl, ⟨0, rfl, iv_w (iv_c (x := (0 : Int32)) (k := 0) (by decide)) (by decide)⟩⟩
      | 2, h => by cases h; exact ⟨_, rfl, ⟨0, rfl, iv_w (iv_c (x := (0 : Int32)) (k := 0) (by decide)) (by decide)⟩⟩
      | 3, h => by cases h; exact ⟨_, rfl, ⟨0, rfl, iv_w (iv_c (x := (0 : Int32)) (k := 0) (by decide)) (by decide)⟩⟩
      | 4, h => by cases h; exact ⟨_, rfl, ⟨0, rfl, iv_w (iv_c (x := (0 : Int32)) (k := 0) (by decide)) (by decide)⟩⟩
      | 5, h => by cases h; exact ⟨_, rfl, ⟨_, rfl⟩⟩
      | 6, h => by cases h; exact ⟨_, rfl, ⟨a6, rfl, h6⟩⟩
      | 7, h => by cases h; exact ⟨_, rfl, ⟨a7, rfl, h7⟩⟩
      | 8, h => by cases h; exact ⟨_, rfl, ⟨a8, rfl, h8⟩⟩
      | 9, h => by cases h; exact ⟨_, rfl, ⟨a9, rfl, h9⟩⟩
      | k + 10, h => by simp [RT1] at h⟩
theorem tc_7 {D : va_G} {c0 : Nat → ClassId} {Y : Nat → Option Nat} {H : Heap} {q a1 a2 a3 : Nat} (h : va_at D vwCl (q, .inr (1, [.int 0, .ref a1, .ref a2, .ref a3])) H) (h1 : Y a1 = some 20) (h2 : Y a2 = some 20) (h3 : Y a3 = some 20) : ti_c D vwCl (tysOf c0) Y (RT1 false 1) q H :=
  ⟨_, h, rfl, fun k t hk => match k, hk with
      | 0, h => by cases h; exact ⟨_, rfl, ⟨0, rfl, iv_w (iv_c (x := (0 : Int32)) (k := 0) (by decide)) (by decide)⟩⟩
      | 1, h => by cases h; exact ⟨_, rfl, ⟨a1, rfl, h1⟩⟩
      | 2, h => by cases h; exact ⟨_, rfl, ⟨a2, rfl, h2⟩⟩
      | 3, h => by cases h; exact ⟨_, rfl, ⟨a3, rfl, h3⟩⟩
      | k + 4, h => by simp [RT1] at h⟩
theorem tc_8 {D : va_G} {c0 : Nat → ClassId} {Y : Nat → Option Nat} {H : Heap} {q : Nat} {g : Nat → Int32} (h : va_at D vwCl (q, .inl (c0 0, 64, .inl g)) H)  : ti_c D vwCl (tysOf c0) Y (RT1 false 22) q H :=
  tc_ints (RT := RT1 false) (r := 22) (ty := .int) rfl rfl h (fun _ _ => ⟨_, rfl, iv_top _⟩)
theorem tc_9 {D : va_G} {c0 : Nat → ClassId} {Y : Nat → Option Nat} {H : Heap} {q : Nat} (h : va_at D vwCl (q, .inr (0, [.int 0, .int 2, .int 0, .int 0, .int 0])) H)  : ti_c D vwCl (tysOf c0) Y (RT1 false 0) q H :=
  ⟨_, h, rfl, fun k t hk => match k, hk with
      | 0, h => by cases h; exact ⟨_, rfl, ⟨0, rfl, iv_w (iv_c (x := (0 : Int32)) (k := 0) (by decide)) (by decide)⟩⟩
      | 1, h => by cases h; exact ⟨_, rfl, ⟨2, rfl, iv_w (iv_c (x := (2 : Int32)) (k := 2) (by decide)) (by decide)⟩⟩
      | 2, h => by cases h; exact ⟨_, rfl, ⟨0, rfl, iv_w (iv_c (x := (0 : Int32)) (k := 0) (by decide)) (by decide)⟩⟩
      | 3, h => by cases h; exact ⟨_, rfl, ⟨0, rfl, iv_w (iv_c (x := (0 : Int32)) (k := 0) (by decide)) (by decide)⟩⟩
      | 4, h => by cases h; exact ⟨_, rfl, ⟨0, rfl, iv_w (iv_c (x := (0 : Int32)) (k := 0) (by decide)) (by decide)⟩⟩
      | k + 5, h => by simp [RT1] at h⟩
theorem tc_10 {D : va_G} {c0 : Nat → ClassId} {Y : Nat → Option Nat} {H : Heap} {q : Nat} {a0 a1 a2 : Nat} (h : va_at D vwCl (q, .inl (c0 4, 3, .inr (.inr (.inr (.inr (va_up (va_up (va_up (fun _ => none) 0 (some a0)) 1 (some a1)) 2 (some a2))))))) H) (h0 : Y a0 = some 7) (h1 : Y a1 = some 7) (h2 : Y a2 = some 7) : ti_c D vwCl (tysOf c0) Y (RT1 false 23) q H :=
  tc_refs (RT := RT1 false) (r := 23) (ty := (.object "SixStroke$Town")) rfl rfl h (fun j hj => match j, hj with
      | 0, _ => ⟨a0, rfl, h0⟩
      | 1, _ => ⟨a1, rfl, h1⟩
      | 2, _ => ⟨a2, rfl, h2⟩
      | k + 3, h => absurd (show k + 3 < 3 from h) (by omega))
theorem tc_11 {D : va_G} {c0 : Nat → ClassId} {Y : Nat → Option Nat} {H : Heap} {q : Nat} (h : va_at D vwCl (q, .inl (c0 2, 3, .inl (fun _ => 0))) H)  : ti_c D vwCl (tysOf c0) Y (RT1 false 24) q H :=
  tc_ints (RT := RT1 false) (r := 24) (ty := .boolean) rfl rfl h (fun _ _ => ⟨0, rfl, iv_w (iv_c (x := (0 : Int32)) (k := 0) (by decide)) (by decide)⟩)
theorem tc_12 {D : va_G} {c0 : Nat → ClassId} {Y : Nat → Option Nat} {H : Heap} {q : Nat} {a0 a1 a2 a3 : Nat} (h : va_at D vwCl (q, .inl (c0 5, 4, .inr (.inr (.inr (.inr (va_up (va_up (va_up (va_up (fun _ => none) 0 (some a0)) 1 (some a1)) 2 (some a2)) 3 (some a3))))))) H) (h0 : Y a0 = some 5) (h1 : Y a1 = some 5) (h2 : Y a2 = some 5) (h3 : Y a3 = some 5) : ti_c D vwCl (tysOf c0) Y (RT1 false 25) q H :=
  tc_refs (RT := RT1 false) (r := 25) (ty := (.object "SixStroke$Slot")) rfl rfl h (fun j hj => match j, hj with
      | 0, _ => ⟨a0, rfl, h0⟩
      | 1, _ => ⟨a1, rfl, h1⟩
      | 2, _ => ⟨a2, rfl, h2⟩
      | 3, _ => ⟨a3, rfl, h3⟩
      | k + 4, h => absurd (show k + 4 < 4 from h) (by omega))
theorem tc_13 {D : va_G} {c0 : Nat → ClassId} {Y : Nat → Option Nat} {H : Heap} {q a3 : Nat} (h : va_at D vwCl (q, .inr (5, [.int 0, .int 0, .int 0, .ref a3])) H) (h3 : Y a3 = some 27) : ti_c D vwCl (tysOf c0) Y (RT1 false 5) q H :=
  ⟨_, h, rfl, fun k t hk => match k, hk with
      | 0, h => by cases h; exact ⟨_, rfl, ⟨0, rfl, iv_w (iv_c (x := (0 : Int32)) (k := 0) (by decide)) (by decide)⟩⟩
      | 1, h => by cases h; exact ⟨_, rfl, ⟨0, rfl, iv_w (iv_c (x := (0 : Int32)) (k := 0) (by decide)) (by decide)⟩⟩
      | 2, h => by cases h; exact ⟨_, rfl, ⟨0, rfl, iv_w (iv_c (x := (0 : Int32)) (k := 0) (by decide)) (by decide)⟩⟩
      | 3, h => by cases h; exact ⟨_, rfl, ⟨a3, rfl, h3⟩⟩
      | k + 4, h => by simp [RT1] at h⟩
theorem tc_14 {D : va_G} {c0 : Nat → ClassId} {Y : Nat → Option Nat} {H : Heap} {q : Nat} (h : va_at D vwCl (q, .inl (c0 3, 60, .inr (.inl (fun _ => 0)))) H)  : ti_c D vwCl (tysOf c0) Y (RT1 false 27) q H :=
  tc_longs (RT := RT1 false) (r := 27) (ty := .long) rfl rfl h (fun _ _ => ⟨_, rfl⟩)
theorem tc_15 {D : va_G} {c0 : Nat → ClassId} {Y : Nat → Option Nat} {H : Heap} {q a1 a2 a3 a4 a5 a7 a15 a17 a18 a20 a21 a24 a25 a26 a28 a29 a30 a31 a32 a33 a34 a35 a36 a37 : Nat} (h : va_at D vwCl (q, .inr (10, [.int 0, .ref a1, .ref a2, .ref a3, .ref a4, .ref a5, .int 0, .ref a7, .int 0, .int 0, .int 0, .int 0, .int 0, .int 0, .int (-1), .ref a15, .long 0, .ref a17, .ref a18, .int 0, .ref a20, .ref a21, .int 0, .int 0, .ref a24, .ref a25, .ref a26, .int 0, .ref a28, .ref a29, .ref a30, .ref a31, .ref a32, .ref a33, .ref a34, .ref a35, .ref a36, .ref a37])) H) (h1 : Y a1 = some 30) (h2 : Y a2 = some 31) (h3 : Y a3 = some 32) (h4 : Y a4 = some 33) (h5 : Y a5 = some 34) (h7 : Y a7 = some 35) (h15 : Y a15 = some 36) (h34 : Y a34 = some 37) (h35 : Y a35 = some 38) (h36 : Y a36 = some 39) : ti_c D vwCl (tysOf c0) Y (RT1 false 10) q H :=
  ⟨_, h, rfl, fun k t hk => match k, hk with
      | 0, h => by cases h; exact ⟨_, rfl, trivial⟩
      | 1, h => by cases h; exact ⟨_, rfl, ⟨a1, rfl, h1⟩⟩
      | 2, h => by cases h; exact ⟨_, rfl, ⟨a2, rfl, h2⟩⟩
      | 3, h => by cases h; exact ⟨_, rfl, ⟨a3, rfl, h3⟩⟩
      | 4, h => by cases h; exact ⟨_, rfl, ⟨a4, rfl, h4⟩⟩
      | 5, h => by cases h; exact ⟨_, rfl, ⟨a5, rfl, h5⟩⟩
      | 6, h => by cases h; exact ⟨_, rfl, ⟨0, rfl, iv_w (iv_c (x := (0 : Int32)) (k := 0) (by decide)) (by decide)⟩⟩
      | 7, h => by cases h; exact ⟨_, rfl, ⟨a7, rfl, h7⟩⟩
      | 8, h => by cases h; exact ⟨_, rfl, ⟨0, rfl, iv_w (iv_c (x := (0 : Int32)) (k := 0) (by decide)) (by decide)⟩⟩
      | 9, h => by cases h; exact ⟨_, rfl, ⟨0, rfl, iv_w (iv_c (x := (0 : Int32)) (k := 0) (by decide)) (by decide)⟩⟩
      | 10, h => by cases h; exact ⟨_, rfl, ⟨0, rfl, iv_w (iv_c (x := (0 : Int32)) (k := 0) (by decide)) (by decide)⟩⟩
      | 11, h => by cases h; exact ⟨_, rfl, ⟨0, rfl, iv_w (iv_c (x := (0 : Int32)) (k := 0) (by decide)) (by decide)⟩⟩
      | 12, h => by cases h; exact ⟨_, rfl, ⟨0, rfl, iv_w (iv_c (x := (0 : Int32)) (k := 0) (by decide)) (by decide)⟩⟩
      | 13, h => by cases h; exact ⟨_, rfl, ⟨0, rfl, iv_w (iv_c (x := (0 : Int32)) (k := 0) (by decide)) (by decide)⟩⟩
      | 14, h => by cases h; exact ⟨_, rfl, ⟨(-1), rfl, iv_w (iv_c (x := ((-1) : Int32)) (k := (-1)) (by decide)) (by decide)⟩⟩
      | 15, h => by cases h; exact ⟨_, rfl, ⟨a15, rfl, h15⟩⟩
      | 16, h => by cases h; exact ⟨_, rfl, ⟨_, rfl⟩⟩
      | 17, h => by cases h; exact ⟨_, rfl, trivial⟩
      | 18, h => by cases h; exact ⟨_, rfl, trivial⟩
      | 19, h => by cases h; exact ⟨_, rfl, trivial⟩
      | 20, h => by cases h; exact ⟨_, rfl, trivial⟩
      | 21, h => by cases h; exact ⟨_, rfl, trivial⟩
      | 22, h => by cases h; exact ⟨_, rfl, trivial⟩
      | 23, h => by cases h; exact ⟨_, rfl, trivial⟩
      | 24, h => by cases h; exact ⟨_, rfl, trivial⟩
      | 25, h => by cases h; exact ⟨_, rfl, trivial⟩
      | 26, h => by cases h; exact ⟨_, rfl, trivial⟩
      | 27, h => by cases h; exact ⟨_, rfl, trivial⟩
      | 28, h => by cases h; exact ⟨_, rfl, trivial⟩
      | 29, h => by cases h; exact ⟨_, rfl, trivial⟩
      | 30, h => by cases h; exact ⟨_, rfl, trivial⟩
      | 31, h => by cases h; exact ⟨_, rfl, trivial⟩
      | 32, h => by cases h; exact ⟨_, rfl, trivial⟩
      | 33, h => by cases h; exact ⟨_, rfl, trivial⟩
      | 34, h => by cases h; exact ⟨_, rfl, ⟨a34, rfl, h34⟩⟩
      | 35, h => by cases h; exact ⟨_, rfl, ⟨a35, rfl, h35⟩⟩
      | 36, h => by cases h; exact ⟨_, rfl, ⟨a36, rfl, h36⟩⟩
      | 37, h => by cases h; exact ⟨_, rfl, trivial⟩
      | k + 38, h => by simp [RT1] at h⟩
theorem tc_16 {D : va_G} {c0 : Nat → ClassId} {Y : Nat → Option Nat} {H : Heap} {q : Nat} (h : va_at D vwCl (q, .inl (c0 0, 534, .inl (fun _ => 0))) H)  : ti_c D vwCl (tysOf c0) Y (RT1 false 31) q H :=
  tc_ints (RT := RT1 false) (r := 31) (ty := .int) rfl rfl h (fun _ _ => ⟨_, rfl, iv_top _⟩)
theorem tc_17 {D : va_G} {c0 : Nat → ClassId} {Y : Nat → Option Nat} {H : Heap} {q : Nat} (h : va_at D vwCl (q, .inl (c0 3, 3, .inr (.inl (fun _ => 0)))) H)  : ti_c D vwCl (tysOf c0) Y (RT1 false 32) q H :=
  tc_longs (RT := RT1 false) (r := 32) (ty := .long) rfl rfl h (fun _ _ => ⟨_, rfl⟩)
theorem tc_18 {D : va_G} {c0 : Nat → ClassId} {Y : Nat → Option Nat} {H : Heap} {q : Nat} (h : va_at D vwCl (q, .inl (c0 2, 3, .inl (fun _ => 0))) H)  : ti_c D vwCl (tysOf c0) Y (RT1 false 33) q H :=
  tc_ints (RT := RT1 false) (r := 33) (ty := .boolean) rfl rfl h (fun _ _ => ⟨0, rfl, iv_w (iv_c (x := (0 : Int32)) (k := 0) (by decide)) (by decide)⟩)
theorem tc_19 {D : va_G} {c0 : Nat → ClassId} {Y : Nat → Option Nat} {H : Heap} {q : Nat} (h : va_at D vwCl (q, .inl (c0 1, 1600, .inl (fun _ => 0))) H)  : ti_c D vwCl (tysOf c0) Y (RT1 false 34) q H :=
  tc_ints (RT := RT1 false) (r := 34) (ty := .byte) rfl rfl h (fun _ _ => ⟨0, rfl, iv_w (iv_c (x := (0 : Int32)) (k := 0) (by decide)) (by decide)⟩)
theorem tc_20 {D : va_G} {c0 : Nat → ClassId} {Y : Nat → Option Nat} {H : Heap} {q : Nat} (h : va_at D vwCl (q, .inl (c0 0, 5, .inl (fun _ => 0))) H)  : ti_c D vwCl (tysOf c0) Y (RT1 false 35) q H :=
  tc_ints (RT := RT1 false) (r := 35) (ty := .int) rfl rfl h (fun _ _ => ⟨_, rfl, iv_top _⟩)
theorem tc_21 {D : va_G} {c0 : Nat → ClassId} {Y : Nat → Option Nat} {H : Heap} {q : Nat} (h : va_at D vwCl (q, .inl (c0 0, 178, .inl (fun _ => 0))) H)  : ti_c D vwCl (tysOf c0) Y (RT1 false 36) q H :=
  tc_ints (RT := RT1 false) (r := 36) (ty := .int) rfl rfl h (fun j hj => wf1_0 j)
theorem tc_22 {D : va_G} {c0 : Nat → ClassId} {Y : Nat → Option Nat} {H : Heap} {q : Nat} (h : va_at D vwCl (q, .inl (c0 0, 4, .inl (upd (upd (upd (upd (fun _ => 0) 0 (-1)) 1 (-1)) 2 (-1)) 3 (-1)))) H)  : ti_c D vwCl (tysOf c0) Y (RT1 false 37) q H :=
  tc_ints (RT := RT1 false) (r := 37) (ty := .int) rfl rfl h (fun j hj => match j, hj with
      | 0, _ => ⟨-1, rfl, iv_w (iv_c (x := (-1 : Int32)) (k := -1) (by decide)) (by decide)⟩
      | 1, _ => ⟨-1, rfl, iv_w (iv_c (x := (-1 : Int32)) (k := -1) (by decide)) (by decide)⟩
      | 2, _ => ⟨-1, rfl, iv_w (iv_c (x := (-1 : Int32)) (k := -1) (by decide)) (by decide)⟩
      | 3, _ => ⟨-1, rfl, iv_w (iv_c (x := (-1 : Int32)) (k := -1) (by decide)) (by decide)⟩
      | k + 4, h => absurd (show k + 4 < 4 from h) (by omega))
theorem tc_23 {D : va_G} {c0 : Nat → ClassId} {Y : Nat → Option Nat} {H : Heap} {q : Nat} (h : va_at D vwCl (q, .inl (c0 0, 4, .inl (fun _ => 0))) H)  : ti_c D vwCl (tysOf c0) Y (RT1 false 38) q H :=
  tc_ints (RT := RT1 false) (r := 38) (ty := .int) rfl rfl h (fun _ _ => ⟨_, rfl, iv_top _⟩)
theorem tc_24 {D : va_G} {c0 : Nat → ClassId} {Y : Nat → Option Nat} {H : Heap} {q : Nat} (h : va_at D vwCl (q, .inl (c0 3, 240, .inr (.inl (fun _ => 0)))) H)  : ti_c D vwCl (tysOf c0) Y (RT1 false 39) q H :=
  tc_longs (RT := RT1 false) (r := 39) (ty := .long) rfl rfl h (fun _ _ => ⟨_, rfl⟩)
theorem tc_25 {D : va_G} {c0 : Nat → ClassId} {Y : Nat → Option Nat} {H : Heap} {q : Nat} {g : Nat → Int32} (h : va_at D vwCl (q, .inl (c0 0, 178, .inl g)) H) (hE : ∀ j : Nat, j < 16 → g j = if j = 3 then 2 else 0) : ti_c D vwCl (tysOf c0) Y (RT1 false 30) q H :=
  tc_ints (RT := RT1 false) (r := 30) (ty := .int) rfl rfl h (fun j hj => wf1_g (b := false) hE j)
def ro_six : List Nat := [9, 6, 26, 20, 20, 20, 21, 3, 3, 3, 3, 3, 3, 3, 3, 7, 1, 22, 0, 20, 20, 20, 21, 3, 3, 3, 3, 3, 3, 3, 3, 7, 1, 22, 0, 23, 24, 25, 20, 20, 20, 21, 3, 3, 3, 3, 3, 3, 3, 3, 7, 1, 22, 0, 20, 20, 20, 21, 3, 3, 3, 3, 3, 3, 3, 3, 7, 1, 22, 0, 20, 20, 20, 21, 3, 3, 3, 3, 3, 3, 3, 3, 7, 1, 22, 0, 5, 27, 5, 27, 5, 27, 5, 27]
set_option maxHeartbeats 8000000 in
set_option maxRecDepth 100000 in
theorem ty_six {D : va_G} {c0 : Nat → ClassId} {H : Heap} {A : Nat → Prop} {ws : va_W} {h0 : Nat} {q5_0 : Nat} {q8_0_9_1 : Nat} {q14_1_9_2 : Nat} {q5_0_18_2_9_3 : Nat} {q16_1_18_3_9_4 : Nat} {q7_0_20_2_18_4_9_5 : Nat} {q15_1_20_3_18_5_9_6 : Nat} {q23_2_20_4_18_6_9_7 : Nat} {q29_5_18_7_9_8 : Nat} {q38_6_18_8_9_9 : Nat} {q56_7_18_9_9_10 : Nat} {q56_8_18_10_9_11 : Nat} {q56_9_18_11_9_12 : Nat} {q56_10_18_12_9_13 : Nat} {q56_11_18_13_9_14 : Nat} {q56_12_18_14_9_15 : Nat} {q56_13_18_15_9_16 : Nat} {q56_14_18_16_9_17 : Nat} {g_71_15_18_17_9_18 : Nat → Int32} {q16_19 : Nat} {q5_0_20_20 : Nat} {q16_1_20_21 : Nat} {q7_0_20_2_20_22 : Nat} {q15_1_20_3_20_23 : Nat} {q23_2_20_4_20_24 : Nat} {q29_5_20_25 : Nat} {q38_6_20_26 : Nat} {q56_7_20_27 : Nat} {q56_8_20_28 : Nat} {q56_9_20_29 : Nat} {q56_10_20_30 : Nat} {q56_11_20_31 : Nat} {q56_12_20_32 : Nat} {q56_13_20_33 : Nat} {q56_14_20_34 : Nat} {g_71_15_20_35 : Nat → Int32} {q28_36 : Nat} {q36_37 : Nat} {q44_38 : Nat} {q51_39 : Nat} {q58_40 : Nat} {q69_43 : Nat} {q80_48 : Nat} {q93_58 : Nat} {q100_59 : Nat} {q143_111 : Nat} {q5_0_147_112 : Nat} {q16_1_147_113 : Nat} {q7_0_20_2_147_114 : Nat} {q15_1_20_3_147_115 : Nat} {q23_2_20_4_147_116 : Nat} {q29_5_147_117 : Nat} {q38_6_147_118 : Nat} {q56_7_147_119 : Nat} {q56_8_147_120 : Nat} {q56_9_147_121 : Nat} {q56_10_147_122 : Nat} {q56_11_147_123 : Nat} {q56_12_147_124 : Nat} {q56_13_147_125 : Nat} {q56_14_147_126 : Nat} {g_71_15_147_127 : Nat → Int32} {q143_128 : Nat} {q5_0_147_129 : Nat} {q16_1_147_130 : Nat} {q7_0_20_2_147_131 : Nat} {q15_1_20_3_147_132 : Nat} {q23_2_20_4_147_133 : Nat} {q29_5_147_134 : Nat} {q38_6_147_135 : Nat} {q56_7_147_136 : Nat} {q56_8_147_137 : Nat} {q56_9_147_138 : Nat} {q56_10_147_139 : Nat} {q56_11_147_140 : Nat} {q56_12_147_141 : Nat} {q56_13_147_142 : Nat} {q56_14_147_143 : Nat} {g_71_15_147_144 : Nat → Int32} {q143_145 : Nat} {q5_0_147_146 : Nat} {q16_1_147_147 : Nat} {q7_0_20_2_147_148 : Nat} {q15_1_20_3_147_149 : Nat} {q23_2_20_4_147_150 : Nat} {q29_5_147_151 : Nat} {q38_6_147_152 : Nat} {q56_7_147_153 : Nat} {q56_8_147_154 : Nat} {q56_9_147_155 : Nat} {q56_10_147_156 : Nat} {q56_11_147_157 : Nat} {q56_12_147_158 : Nat} {q56_13_147_159 : Nat} {q56_14_147_160 : Nat} {g_71_15_147_161 : Nat → Int32} {q169_162 : Nat} {q7_0_173_163 : Nat} {q169_164 : Nat} {q7_0_173_165 : Nat} {q169_166 : Nat} {q7_0_173_167 : Nat} {q169_168 : Nat} {q7_0_173_169 : Nat} (hws : ws = [(h0, .inr (9, [.ref q5_0, .ref q16_19, .ref q28_36, .ref q36_37, .ref q44_38, .ref q51_39, .ref q58_40, .ref q69_43, .ref q80_48, .ref q93_58, .ref q100_59])), (q5_0, .inr (6, [.ref q8_0_9_1, .int 0, .ref q14_1_9_2, .int 0, .int 0, .int 0, .int 0, .int 0, .int 0, .int 0, .int 0, .int (-1)])), (q8_0_9_1, .inl (c0 1, 1600, .inl (fun _ => 0))), (q7_0_20_2_18_4_9_5, .inl (c0 0, 6, .inl (fun _ => 0))), (q15_1_20_3_18_5_9_6, .inl (c0 0, 6, .inl (fun _ => 0))), (q23_2_20_4_18_6_9_7, .inl (c0 0, 6, .inl (fun _ => 0))), (q29_5_18_7_9_8, .inl (c0 6, 8, .inr (.inr (.inr (.inr (va_up (va_up (va_up (va_up (va_up (va_up (va_up (va_up (fun _ => none) 0 (some q56_7_18_9_9_10)) 1 (some q56_8_18_10_9_11)) 2 (some q56_9_18_11_9_12)) 3 (some q56_10_18_12_9_13)) 4 (some q56_11_18_13_9_14)) 5 (some q56_12_18_14_9_15)) 6 (some q56_13_18_15_9_16)) 7 (some q56_14_18_16_9_17))))))), (q56_7_18_9_9_10, .inr (3, [.int 0, .int 0, .int 0, .int 0, .int 0, .int 0, .int 0, .int 0, .int 0, .int 0])), (q56_8_18_10_9_11, .inr (3, [.int 0, .int 0, .int 0, .int 0, .int 0, .int 0, .int 0, .int 0, .int 0, .int 0])), (q56_9_18_11_9_12, .inr (3, [.int 0, .int 0, .int 0, .int 0, .int 0, .int 0, .int 0, .int 0, .int 0, .int 0])), (q56_10_18_12_9_13, .inr (3, [.int 0, .int 0, .int 0, .int 0, .int 0, .int 0, .int 0, .int 0, .int 0, .int 0])), (q56_11_18_13_9_14, .inr (3, [.int 0, .int 0, .int 0, .int 0, .int 0, .int 0, .int 0, .int 0, .int 0, .int 0])), (q56_12_18_14_9_15, .inr (3, [.int 0, .int 0, .int 0, .int 0, .int 0, .int 0, .int 0, .int 0, .int 0, .int 0])), (q56_13_18_15_9_16, .inr (3, [.int 0, .int 0, .int 0, .int 0, .int 0, .int 0, .int 0, .int 0, .int 0, .int 0])), (q56_14_18_16_9_17, .inr (3, [.int 0, .int 0, .int 0, .int 0, .int 0, .int 0, .int 0, .int 0, .int 0, .int 0])), (q14_1_9_2, .inr (7, [.int 0, .int 0, .int 0, .int 0, .int 0, .long 0, .ref q5_0_18_2_9_3, .ref q16_1_18_3_9_4, .ref q29_5_18_7_9_8, .ref q38_6_18_8_9_9])), (q16_1_18_3_9_4, .inr (1, [.int 0, .ref q7_0_20_2_18_4_9_5, .ref q15_1_20_3_18_5_9_6, .ref q23_2_20_4_18_6_9_7])), (q38_6_18_8_9_9, .inl (c0 0, 64, .inl g_71_15_18_17_9_18)), (q5_0_18_2_9_3, .inr (0, [.int 0, .int 2, .int 0, .int 0, .int 0])), (q7_0_20_2_20_22, .inl (c0 0, 6, .inl (fun _ => 0))), (q15_1_20_3_20_23, .inl (c0 0, 6, .inl (fun _ => 0))), (q23_2_20_4_20_24, .inl (c0 0, 6, .inl (fun _ => 0))), (q29_5_20_25, .inl (c0 6, 8, .inr (.inr (.inr (.inr (va_up (va_up (va_up (va_up (va_up (va_up (va_up (va_up (fun _ => none) 0 (some q56_7_20_27)) 1 (some q56_8_20_28)) 2 (some q56_9_20_29)) 3 (some q56_10_20_30)) 4 (some q56_11_20_31)) 5 (some q56_12_20_32)) 6 (some q56_13_20_33)) 7 (some q56_14_20_34))))))), (q56_7_20_27, .inr (3, [.int 0, .int 0, .int 0, .int 0, .int 0, .int 0, .int 0, .int 0, .int 0, .int 0])), (q56_8_20_28, .inr (3, [.int 0, .int 0, .int 0, .int 0, .int 0, .int 0, .int 0, .int 0, .int 0, .int 0])), (q56_9_20_29, .inr (3, [.int 0, .int 0, .int 0, .int 0, .int 0, .int 0, .int 0, .int 0, .int 0, .int 0])), (q56_10_20_30, .inr (3, [.int 0, .int 0, .int 0, .int 0, .int 0, .int 0, .int 0, .int 0, .int 0, .int 0])), (q56_11_20_31, .inr (3, [.int 0, .int 0, .int 0, .int 0, .int 0, .int 0, .int 0, .int 0, .int 0, .int 0])), (q56_12_20_32, .inr (3, [.int 0, .int 0, .int 0, .int 0, .int 0, .int 0, .int 0, .int 0, .int 0, .int 0])), (q56_13_20_33, .inr (3, [.int 0, .int 0, .int 0, .int 0, .int 0, .int 0, .int 0, .int 0, .int 0, .int 0])), (q56_14_20_34, .inr (3, [.int 0, .int 0, .int 0, .int 0, .int 0, .int 0, .int 0, .int 0, .int 0, .int 0])), (q16_19, .inr (7, [.int 0, .int 0, .int 0, .int 0, .int 0, .long 0, .ref q5_0_20_20, .ref q16_1_20_21, .ref q29_5_20_25, .ref q38_6_20_26])), (q16_1_20_21, .inr (1, [.int 0, .ref q7_0_20_2_20_22, .ref q15_1_20_3_20_23, .ref q23_2_20_4_20_24])), (q38_6_20_26, .inl (c0 0, 64, .inl g_71_15_20_35)), (q5_0_20_20, .inr (0, [.int 0, .int 2, .int 0, .int 0, .int 0])), (q36_37, .inl (c0 4, 3, .inr (.inr (.inr (.inr (va_up (va_up (va_up (fun _ => none) 0 (some q143_111)) 1 (some q143_128)) 2 (some q143_145))))))), (q44_38, .inl (c0 2, 3, .inl (fun _ => 0))), (q51_39, .inl (c0 5, 4, .inr (.inr (.inr (.inr (va_up (va_up (va_up (va_up (fun _ => none) 0 (some q169_162)) 1 (some q169_164)) 2 (some q169_166)) 3 (some q169_168))))))), (q7_0_20_2_147_114, .inl (c0 0, 6, .inl (fun _ => 0))), (q15_1_20_3_147_115, .inl (c0 0, 6, .inl (fun _ => 0))), (q23_2_20_4_147_116, .inl (c0 0, 6, .inl (fun _ => 0))), (q29_5_147_117, .inl (c0 6, 8, .inr (.inr (.inr (.inr (va_up (va_up (va_up (va_up (va_up (va_up (va_up (va_up (fun _ => none) 0 (some q56_7_147_119)) 1 (some q56_8_147_120)) 2 (some q56_9_147_121)) 3 (some q56_10_147_122)) 4 (some q56_11_147_123)) 5 (some q56_12_147_124)) 6 (some q56_13_147_125)) 7 (some q56_14_147_126))))))), (q56_7_147_119, .inr (3, [.int 0, .int 0, .int 0, .int 0, .int 0, .int 0, .int 0, .int 0, .int 0, .int 0])), (q56_8_147_120, .inr (3, [.int 0, .int 0, .int 0, .int 0, .int 0, .int 0, .int 0, .int 0, .int 0, .int 0])), (q56_9_147_121, .inr (3, [.int 0, .int 0, .int 0, .int 0, .int 0, .int 0, .int 0, .int 0, .int 0, .int 0])), (q56_10_147_122, .inr (3, [.int 0, .int 0, .int 0, .int 0, .int 0, .int 0, .int 0, .int 0, .int 0, .int 0])), (q56_11_147_123, .inr (3, [.int 0, .int 0, .int 0, .int 0, .int 0, .int 0, .int 0, .int 0, .int 0, .int 0])), (q56_12_147_124, .inr (3, [.int 0, .int 0, .int 0, .int 0, .int 0, .int 0, .int 0, .int 0, .int 0, .int 0])), (q56_13_147_125, .inr (3, [.int 0, .int 0, .int 0, .int 0, .int 0, .int 0, .int 0, .int 0, .int 0, .int 0])), (q56_14_147_126, .inr (3, [.int 0, .int 0, .int 0, .int 0, .int 0, .int 0, .int 0, .int 0, .int 0, .int 0])), (q143_111, .inr (7, [.int 0, .int 0, .int 0, .int 0, .int 0, .long 0, .ref q5_0_147_112, .ref q16_1_147_113, .ref q29_5_147_117, .ref q38_6_147_118])), (q16_1_147_113, .inr (1, [.int 0, .ref q7_0_20_2_147_114, .ref q15_1_20_3_147_115, .ref q23_2_20_4_147_116])), (q38_6_147_118, .inl (c0 0, 64, .inl g_71_15_147_127)), (q5_0_147_112, .inr (0, [.int 0, .int 2, .int 0, .int 0, .int 0])), (q7_0_20_2_147_131, .inl (c0 0, 6, .inl (fun _ => 0))), (q15_1_20_3_147_132, .inl (c0 0, 6, .inl (fun _ => 0))), (q23_2_20_4_147_133, .inl (c0 0, 6, .inl (fun _ => 0))), (q29_5_147_134, .inl (c0 6, 8, .inr (.inr (.inr (.inr (va_up (va_up (va_up (va_up (va_up (va_up (va_up (va_up (fun _ => none) 0 (some q56_7_147_136)) 1 (some q56_8_147_137)) 2 (some q56_9_147_138)) 3 (some q56_10_147_139)) 4 (some q56_11_147_140)) 5 (some q56_12_147_141)) 6 (some q56_13_147_142)) 7 (some q56_14_147_143))))))), (q56_7_147_136, .inr (3, [.int 0, .int 0, .int 0, .int 0, .int 0, .int 0, .int 0, .int 0, .int 0, .int 0])), (q56_8_147_137, .inr (3, [.int 0, .int 0, .int 0, .int 0, .int 0, .int 0, .int 0, .int 0, .int 0, .int 0])), (q56_9_147_138, .inr (3, [.int 0, .int 0, .int 0, .int 0, .int 0, .int 0, .int 0, .int 0, .int 0, .int 0])), (q56_10_147_139, .inr (3, [.int 0, .int 0, .int 0, .int 0, .int 0, .int 0, .int 0, .int 0, .int 0, .int 0])), (q56_11_147_140, .inr (3, [.int 0, .int 0, .int 0, .int 0, .int 0, .int 0, .int 0, .int 0, .int 0, .int 0])), (q56_12_147_141, .inr (3, [.int 0, .int 0, .int 0, .int 0, .int 0, .int 0, .int 0, .int 0, .int 0, .int 0])), (q56_13_147_142, .inr (3, [.int 0, .int 0, .int 0, .int 0, .int 0, .int 0, .int 0, .int 0, .int 0, .int 0])), (q56_14_147_143, .inr (3, [.int 0, .int 0, .int 0, .int 0, .int 0, .int 0, .int 0, .int 0, .int 0, .int 0])), (q143_128, .inr (7, [.int 0, .int 0, .int 0, .int 0, .int 0, .long 0, .ref q5_0_147_129, .ref q16_1_147_130, .ref q29_5_147_134, .ref q38_6_147_135])), (q16_1_147_130, .inr (1, [.int 0, .ref q7_0_20_2_147_131, .ref q15_1_20_3_147_132, .ref q23_2_20_4_147_133])), (q38_6_147_135, .inl (c0 0, 64, .inl g_71_15_147_144)), (q5_0_147_129, .inr (0, [.int 0, .int 2, .int 0, .int 0, .int 0])), (q7_0_20_2_147_148, .inl (c0 0, 6, .inl (fun _ => 0))), (q15_1_20_3_147_149, .inl (c0 0, 6, .inl (fun _ => 0))), (q23_2_20_4_147_150, .inl (c0 0, 6, .inl (fun _ => 0))), (q29_5_147_151, .inl (c0 6, 8, .inr (.inr (.inr (.inr (va_up (va_up (va_up (va_up (va_up (va_up (va_up (va_up (fun _ => none) 0 (some q56_7_147_153)) 1 (some q56_8_147_154)) 2 (some q56_9_147_155)) 3 (some q56_10_147_156)) 4 (some q56_11_147_157)) 5 (some q56_12_147_158)) 6 (some q56_13_147_159)) 7 (some q56_14_147_160))))))), (q56_7_147_153, .inr (3, [.int 0, .int 0, .int 0, .int 0, .int 0, .int 0, .int 0, .int 0, .int 0, .int 0])), (q56_8_147_154, .inr (3, [.int 0, .int 0, .int 0, .int 0, .int 0, .int 0, .int 0, .int 0, .int 0, .int 0])), (q56_9_147_155, .inr (3, [.int 0, .int 0, .int 0, .int 0, .int 0, .int 0, .int 0, .int 0, .int 0, .int 0])), (q56_10_147_156, .inr (3, [.int 0, .int 0, .int 0, .int 0, .int 0, .int 0, .int 0, .int 0, .int 0, .int 0])), (q56_11_147_157, .inr (3, [.int 0, .int 0, .int 0, .int 0, .int 0, .int 0, .int 0, .int 0, .int 0, .int 0])), (q56_12_147_158, .inr (3, [.int 0, .int 0, .int 0, .int 0, .int 0, .int 0, .int 0, .int 0, .int 0, .int 0])), (q56_13_147_159, .inr (3, [.int 0, .int 0, .int 0, .int 0, .int 0, .int 0, .int 0, .int 0, .int 0, .int 0])), (q56_14_147_160, .inr (3, [.int 0, .int 0, .int 0, .int 0, .int 0, .int 0, .int 0, .int 0, .int 0, .int 0])), (q143_145, .inr (7, [.int 0, .int 0, .int 0, .int 0, .int 0, .long 0, .ref q5_0_147_146, .ref q16_1_147_147, .ref q29_5_147_151, .ref q38_6_147_152])), (q16_1_147_147, .inr (1, [.int 0, .ref q7_0_20_2_147_148, .ref q15_1_20_3_147_149, .ref q23_2_20_4_147_150])), (q38_6_147_152, .inl (c0 0, 64, .inl g_71_15_147_161)), (q5_0_147_146, .inr (0, [.int 0, .int 2, .int 0, .int 0, .int 0])), (q169_162, .inr (5, [.int 0, .int 0, .int 0, .ref q7_0_173_163])), (q7_0_173_163, .inl (c0 3, 60, .inr (.inl (fun _ => 0)))), (q169_164, .inr (5, [.int 0, .int 0, .int 0, .ref q7_0_173_165])), (q7_0_173_165, .inl (c0 3, 60, .inr (.inl (fun _ => 0)))), (q169_166, .inr (5, [.int 0, .int 0, .int 0, .ref q7_0_173_167])), (q7_0_173_167, .inl (c0 3, 60, .inr (.inl (fun _ => 0)))), (q169_168, .inr (5, [.int 0, .int 0, .int 0, .ref q7_0_173_169])), (q7_0_173_169, .inl (c0 3, 60, .inr (.inl (fun _ => 0))))]) (hP : va_P D vwCl ws H) (hD : va_D A ws) : TI D vwCl (tysOf c0) (RT1 false) (yl ws ro_six) H ∧ yl ws ro_six h0 = some 9 ∧ ∀ q, pA (yl ws ro_six) q → A q := by
  have e0 : ws[0]? = some (h0, .inr (9, [.ref q5_0, .ref q16_19, .ref q28_36, .ref q36_37, .ref q44_38, .ref q51_39, .ref q58_40, .ref q69_43, .ref q80_48, .ref q93_58, .ref q100_59])) := by rw [hws]; rfl
  have y0 : yl ws ro_six h0 = some 9 := yl_get hD 0 e0 rfl
  have e1 : ws[1]? = some (q5_0, .inr (6, [.ref q8_0_9_1, .int 0, .ref q14_1_9_2, .int 0, .int 0, .int 0, .int 0, .int 0, .int 0, .int 0, .int 0, .int (-1)])) := by rw [hws]; rfl
  have y1 : yl ws ro_six q5_0 = some 6 := yl_get hD 1 e1 rfl
  have e2 : ws[2]? = some (q8_0_9_1, .inl (c0 1, 1600, .inl (fun _ => 0))) := by rw [hws]; rfl
  have y2 : yl ws ro_six q8_0_9_1 = some 26 := yl_get hD 2 e2 rfl
  have e3 : ws[3]? = some (q7_0_20_2_18_4_9_5, .inl (c0 0, 6, .inl (fun _ => 0))) := by rw [hws]; rfl
  have y3 : yl ws ro_six q7_0_20_2_18_4_9_5 = some 20 := yl_get hD 3 e3 rfl
  have e4 : ws[4]? = some (q15_1_20_3_18_5_9_6, .inl (c0 0, 6, .inl (fun _ => 0))) := by rw [hws]; rfl
  have y4 : yl ws ro_six q15_1_20_3_18_5_9_6 = some 20 := yl_get hD 4 e4 rfl
  have e5 : ws[5]? = some (q23_2_20_4_18_6_9_7, .inl (c0 0, 6, .inl (fun _ => 0))) := by rw [hws]; rfl
  have y5 : yl ws ro_six q23_2_20_4_18_6_9_7 = some 20 := yl_get hD 5 e5 rfl
  have e6 : ws[6]? = some (q29_5_18_7_9_8, .inl (c0 6, 8, .inr (.inr (.inr (.inr (va_up (va_up (va_up (va_up (va_up (va_up (va_up (va_up (fun _ => none) 0 (some q56_7_18_9_9_10)) 1 (some q56_8_18_10_9_11)) 2 (some q56_9_18_11_9_12)) 3 (some q56_10_18_12_9_13)) 4 (some q56_11_18_13_9_14)) 5 (some q56_12_18_14_9_15)) 6 (some q56_13_18_15_9_16)) 7 (some q56_14_18_16_9_17))))))) := by rw [hws]; rfl
  have y6 : yl ws ro_six q29_5_18_7_9_8 = some 21 := yl_get hD 6 e6 rfl
  have e7 : ws[7]? = some (q56_7_18_9_9_10, .inr (3, [.int 0, .int 0, .int 0, .int 0, .int 0, .int 0, .int 0, .int 0, .int 0, .int 0])) := by rw [hws]; rfl
  have y7 : yl ws ro_six q56_7_18_9_9_10 = some 3 := yl_get hD 7 e7 rfl
  have e8 : ws[8]? = some (q56_8_18_10_9_11, .inr (3, [.int 0, .int 0, .int 0, .int 0, .int 0, .int 0, .int 0, .int 0, .int 0, .int 0])) := by rw [hws]; rfl
  have y8 : yl ws ro_six q56_8_18_10_9_11 = some 3 := yl_get hD 8 e8 rfl
  have e9 : ws[9]? = some (q56_9_18_11_9_12, .inr (3, [.int 0, .int 0, .int 0, .int 0, .int 0, .int 0, .int 0, .int 0, .int 0, .int 0])) := by rw [hws]; rfl
  have y9 : yl ws ro_six q56_9_18_11_9_12 = some 3 := yl_get hD 9 e9 rfl
  have e10 : ws[10]? = some (q56_10_18_12_9_13, .inr (3, [.int 0, .int 0, .int 0, .int 0, .int 0, .int 0, .int 0, .int 0, .int 0, .int 0])) := by rw [hws]; rfl
  have y10 : yl ws ro_six q56_10_18_12_9_13 = some 3 := yl_get hD 10 e10 rfl
  have e11 : ws[11]? = some (q56_11_18_13_9_14, .inr (3, [.int 0, .int 0, .int 0, .int 0, .int 0, .int 0, .int 0, .int 0, .int 0, .int 0])) := by rw [hws]; rfl
  have y11 : yl ws ro_six q56_11_18_13_9_14 = some 3 := yl_get hD 11 e11 rfl
  have e12 : ws[12]? = some (q56_12_18_14_9_15, .inr (3, [.int 0, .int 0, .int 0, .int 0, .int 0, .int 0, .int 0, .int 0, .int 0, .int 0])) := by rw [hws]; rfl
  have y12 : yl ws ro_six q56_12_18_14_9_15 = some 3 := yl_get hD 12 e12 rfl
  have e13 : ws[13]? = some (q56_13_18_15_9_16, .inr (3, [.int 0, .int 0, .int 0, .int 0, .int 0, .int 0, .int 0, .int 0, .int 0, .int 0])) := by rw [hws]; rfl
  have y13 : yl ws ro_six q56_13_18_15_9_16 = some 3 := yl_get hD 13 e13 rfl
  have e14 : ws[14]? = some (q56_14_18_16_9_17, .inr (3, [.int 0, .int 0, .int 0, .int 0, .int 0, .int 0, .int 0, .int 0, .int 0, .int 0])) := by rw [hws]; rfl
  have y14 : yl ws ro_six q56_14_18_16_9_17 = some 3 := yl_get hD 14 e14 rfl
  have e15 : ws[15]? = some (q14_1_9_2, .inr (7, [.int 0, .int 0, .int 0, .int 0, .int 0, .long 0, .ref q5_0_18_2_9_3, .ref q16_1_18_3_9_4, .ref q29_5_18_7_9_8, .ref q38_6_18_8_9_9])) := by rw [hws]; rfl
  have y15 : yl ws ro_six q14_1_9_2 = some 7 := yl_get hD 15 e15 rfl
  have e16 : ws[16]? = some (q16_1_18_3_9_4, .inr (1, [.int 0, .ref q7_0_20_2_18_4_9_5, .ref q15_1_20_3_18_5_9_6, .ref q23_2_20_4_18_6_9_7])) := by rw [hws]; rfl
  have y16 : yl ws ro_six q16_1_18_3_9_4 = some 1 := yl_get hD 16 e16 rfl
  have e17 : ws[17]? = some (q38_6_18_8_9_9, .inl (c0 0, 64, .inl g_71_15_18_17_9_18)) := by rw [hws]; rfl
  have y17 : yl ws ro_six q38_6_18_8_9_9 = some 22 := yl_get hD 17 e17 rfl
  have e18 : ws[18]? = some (q5_0_18_2_9_3, .inr (0, [.int 0, .int 2, .int 0, .int 0, .int 0])) := by rw [hws]; rfl
  have y18 : yl ws ro_six q5_0_18_2_9_3 = some 0 := yl_get hD 18 e18 rfl
  have e19 : ws[19]? = some (q7_0_20_2_20_22, .inl (c0 0, 6, .inl (fun _ => 0))) := by rw [hws]; rfl
  have y19 : yl ws ro_six q7_0_20_2_20_22 = some 20 := yl_get hD 19 e19 rfl
  have e20 : ws[20]? = some (q15_1_20_3_20_23, .inl (c0 0, 6, .inl (fun _ => 0))) := by rw [hws]; rfl
  have y20 : yl ws ro_six q15_1_20_3_20_23 = some 20 := yl_get hD 20 e20 rfl
  have e21 : ws[21]? = some (q23_2_20_4_20_24, .inl (c0 0, 6, .inl (fun _ => 0))) := by rw [hws]; rfl
  have y21 : yl ws ro_six q23_2_20_4_20_24 = some 20 := yl_get hD 21 e21 rfl
  have e22 : ws[22]? = some (q29_5_20_25, .inl (c0 6, 8, .inr (.inr (.inr (.inr (va_up (va_up (va_up (va_up (va_up (va_up (va_up (va_up (fun _ => none) 0 (some q56_7_20_27)) 1 (some q56_8_20_28)) 2 (some q56_9_20_29)) 3 (some q56_10_20_30)) 4 (some q56_11_20_31)) 5 (some q56_12_20_32)) 6 (some q56_13_20_33)) 7 (some q56_14_20_34))))))) := by rw [hws]; rfl
  have y22 : yl ws ro_six q29_5_20_25 = some 21 := yl_get hD 22 e22 rfl
  have e23 : ws[23]? = some (q56_7_20_27, .inr (3, [.int 0, .int 0, .int 0, .int 0, .int 0, .int 0, .int 0, .int 0, .int 0, .int 0])) := by rw [hws]; rfl
  have y23 : yl ws ro_six q56_7_20_27 = some 3 := yl_get hD 23 e23 rfl
  have e24 : ws[24]? = some (q56_8_20_28, .inr (3, [.int 0, .int 0, .int 0, .int 0, .int 0, .int 0, .int 0, .int 0, .int 0, .int 0])) := by rw [hws]; rfl
  have y24 : yl ws ro_six q56_8_20_28 = some 3 := yl_get hD 24 e24 rfl
  have e25 : ws[25]? = some (q56_9_20_29, .inr (3, [.int 0, .int 0, .int 0, .int 0, .int 0, .int 0, .int 0, .int 0, .int 0, .int 0])) := by rw [hws]; rfl
  have y25 : yl ws ro_six q56_9_20_29 = some 3 := yl_get hD 25 e25 rfl
  have e26 : ws[26]? = some (q56_10_20_30, .inr (3, [.int 0, .int 0, .int 0, .int 0, .int 0, .int 0, .int 0, .int 0, .int 0, .int 0])) := by rw [hws]; rfl
  have y26 : yl ws ro_six q56_10_20_30 = some 3 := yl_get hD 26 e26 rfl
  have e27 : ws[27]? = some (q56_11_20_31, .inr (3, [.int 0, .int 0, .int 0, .int 0, .int 0, .int 0, .int 0, .int 0, .int 0, .int 0])) := by rw [hws]; rfl
  have y27 : yl ws ro_six q56_11_20_31 = some 3 := yl_get hD 27 e27 rfl
  have e28 : ws[28]? = some (q56_12_20_32, .inr (3, [.int 0, .int 0, .int 0, .int 0, .int 0, .int 0, .int 0, .int 0, .int 0, .int 0])) := by rw [hws]; rfl
  have y28 : yl ws ro_six q56_12_20_32 = some 3 := yl_get hD 28 e28 rfl
  have e29 : ws[29]? = some (q56_13_20_33, .inr (3, [.int 0, .int 0, .int 0, .int 0, .int 0, .int 0, .int 0, .int 0, .int 0, .int 0])) := by rw [hws]; rfl
  have y29 : yl ws ro_six q56_13_20_33 = some 3 := yl_get hD 29 e29 rfl
  have e30 : ws[30]? = some (q56_14_20_34, .inr (3, [.int 0, .int 0, .int 0, .int 0, .int 0, .int 0, .int 0, .int 0, .int 0, .int 0])) := by rw [hws]; rfl
  have y30 : yl ws ro_six q56_14_20_34 = some 3 := yl_get hD 30 e30 rfl
  have e31 : ws[31]? = some (q16_19, .inr (7, [.int 0, .int 0, .int 0, .int 0, .int 0, .long 0, .ref q5_0_20_20, .ref q16_1_20_21, .ref q29_5_20_25, .ref q38_6_20_26])) := by rw [hws]; rfl
  have y31 : yl ws ro_six q16_19 = some 7 := yl_get hD 31 e31 rfl
  have e32 : ws[32]? = some (q16_1_20_21, .inr (1, [.int 0, .ref q7_0_20_2_20_22, .ref q15_1_20_3_20_23, .ref q23_2_20_4_20_24])) := by rw [hws]; rfl
  have y32 : yl ws ro_six q16_1_20_21 = some 1 := yl_get hD 32 e32 rfl
  have e33 : ws[33]? = some (q38_6_20_26, .inl (c0 0, 64, .inl g_71_15_20_35)) := by rw [hws]; rfl
  have y33 : yl ws ro_six q38_6_20_26 = some 22 := yl_get hD 33 e33 rfl
  have e34 : ws[34]? = some (q5_0_20_20, .inr (0, [.int 0, .int 2, .int 0, .int 0, .int 0])) := by rw [hws]; rfl
  have y34 : yl ws ro_six q5_0_20_20 = some 0 := yl_get hD 34 e34 rfl
  have e35 : ws[35]? = some (q36_37, .inl (c0 4, 3, .inr (.inr (.inr (.inr (va_up (va_up (va_up (fun _ => none) 0 (some q143_111)) 1 (some q143_128)) 2 (some q143_145))))))) := by rw [hws]; rfl
  have y35 : yl ws ro_six q36_37 = some 23 := yl_get hD 35 e35 rfl
  have e36 : ws[36]? = some (q44_38, .inl (c0 2, 3, .inl (fun _ => 0))) := by rw [hws]; rfl
  have y36 : yl ws ro_six q44_38 = some 24 := yl_get hD 36 e36 rfl
  have e37 : ws[37]? = some (q51_39, .inl (c0 5, 4, .inr (.inr (.inr (.inr (va_up (va_up (va_up (va_up (fun _ => none) 0 (some q169_162)) 1 (some q169_164)) 2 (some q169_166)) 3 (some q169_168))))))) := by rw [hws]; rfl
  have y37 : yl ws ro_six q51_39 = some 25 := yl_get hD 37 e37 rfl
  have e38 : ws[38]? = some (q7_0_20_2_147_114, .inl (c0 0, 6, .inl (fun _ => 0))) := by rw [hws]; rfl
  have y38 : yl ws ro_six q7_0_20_2_147_114 = some 20 := yl_get hD 38 e38 rfl
  have e39 : ws[39]? = some (q15_1_20_3_147_115, .inl (c0 0, 6, .inl (fun _ => 0))) := by rw [hws]; rfl
  have y39 : yl ws ro_six q15_1_20_3_147_115 = some 20 := yl_get hD 39 e39 rfl
  have e40 : ws[40]? = some (q23_2_20_4_147_116, .inl (c0 0, 6, .inl (fun _ => 0))) := by rw [hws]; rfl
  have y40 : yl ws ro_six q23_2_20_4_147_116 = some 20 := yl_get hD 40 e40 rfl
  have e41 : ws[41]? = some (q29_5_147_117, .inl (c0 6, 8, .inr (.inr (.inr (.inr (va_up (va_up (va_up (va_up (va_up (va_up (va_up (va_up (fun _ => none) 0 (some q56_7_147_119)) 1 (some q56_8_147_120)) 2 (some q56_9_147_121)) 3 (some q56_10_147_122)) 4 (some q56_11_147_123)) 5 (some q56_12_147_124)) 6 (some q56_13_147_125)) 7 (some q56_14_147_126))))))) := by rw [hws]; rfl
  have y41 : yl ws ro_six q29_5_147_117 = some 21 := yl_get hD 41 e41 rfl
  have e42 : ws[42]? = some (q56_7_147_119, .inr (3, [.int 0, .int 0, .int 0, .int 0, .int 0, .int 0, .int 0, .int 0, .int 0, .int 0])) := by rw [hws]; rfl
  have y42 : yl ws ro_six q56_7_147_119 = some 3 := yl_get hD 42 e42 rfl
  have e43 : ws[43]? = some (q56_8_147_120, .inr (3, [.int 0, .int 0, .int 0, .int 0, .int 0, .int 0, .int 0, .int 0, .int 0, .int 0])) := by rw [hws]; rfl
  have y43 : yl ws ro_six q56_8_147_120 = some 3 := yl_get hD 43 e43 rfl
  have e44 : ws[44]? = some (q56_9_147_121, .inr (3, [.int 0, .int 0, .int 0, .int 0, .int 0, .int 0, .int 0, .int 0, .int 0, .int 0])) := by rw [hws]; rfl
  have y44 : yl ws ro_six q56_9_147_121 = some 3 := yl_get hD 44 e44 rfl
  have e45 : ws[45]? = some (q56_10_147_122, .inr (3, [.int 0, .int 0, .int 0, .int 0, .int 0, .int 0, .int 0, .int 0, .int 0, .int 0])) := by rw [hws]; rfl
  have y45 : yl ws ro_six q56_10_147_122 = some 3 := yl_get hD 45 e45 rfl
  have e46 : ws[46]? = some (q56_11_147_123, .inr (3, [.int 0, .int 0, .int 0, .int 0, .int 0, .int 0, .int 0, .int 0, .int 0, .int 0])) := by rw [hws]; rfl
  have y46 : yl ws ro_six q56_11_147_123 = some 3 := yl_get hD 46 e46 rfl
  have e47 : ws[47]? = some (q56_12_147_124, .inr (3, [.int 0, .int 0, .int 0, .int 0, .int 0, .int 0, .int 0, .int 0, .int 0, .int 0])) := by rw [hws]; rfl
  have y47 : yl ws ro_six q56_12_147_124 = some 3 := yl_get hD 47 e47 rfl
  have e48 : ws[48]? = some (q56_13_147_125, .inr (3, [.int 0, .int 0, .int 0, .int 0, .int 0, .int 0, .int 0, .int 0, .int 0, .int 0])) := by rw [hws]; rfl
  have y48 : yl ws ro_six q56_13_147_125 = some 3 := yl_get hD 48 e48 rfl
  have e49 : ws[49]? = some (q56_14_147_126, .inr (3, [.int 0, .int 0, .int 0, .int 0, .int 0, .int 0, .int 0, .int 0, .int 0, .int 0])) := by rw [hws]; rfl
  have y49 : yl ws ro_six q56_14_147_126 = some 3 := yl_get hD 49 e49 rfl
  have e50 : ws[50]? = some (q143_111, .inr (7, [.int 0, .int 0, .int 0, .int 0, .int 0, .long 0, .ref q5_0_147_112, .ref q16_1_147_113, .ref q29_5_147_117, .ref q38_6_147_118])) := by rw [hws]; rfl
  have y50 : yl ws ro_six q143_111 = some 7 := yl_get hD 50 e50 rfl
  have e51 : ws[51]? = some (q16_1_147_113, .inr (1, [.int 0, .ref q7_0_20_2_147_114, .ref q15_1_20_3_147_115, .ref q23_2_20_4_147_116])) := by rw [hws]; rfl
  have y51 : yl ws ro_six q16_1_147_113 = some 1 := yl_get hD 51 e51 rfl
  have e52 : ws[52]? = some (q38_6_147_118, .inl (c0 0, 64, .inl g_71_15_147_127)) := by rw [hws]; rfl
  have y52 : yl ws ro_six q38_6_147_118 = some 22 := yl_get hD 52 e52 rfl
  have e53 : ws[53]? = some (q5_0_147_112, .inr (0, [.int 0, .int 2, .int 0, .int 0, .int 0])) := by rw [hws]; rfl
  have y53 : yl ws ro_six q5_0_147_112 = some 0 := yl_get hD 53 e53 rfl
  have e54 : ws[54]? = some (q7_0_20_2_147_131, .inl (c0 0, 6, .inl (fun _ => 0))) := by rw [hws]; rfl
  have y54 : yl ws ro_six q7_0_20_2_147_131 = some 20 := yl_get hD 54 e54 rfl
  have e55 : ws[55]? = some (q15_1_20_3_147_132, .inl (c0 0, 6, .inl (fun _ => 0))) := by rw [hws]; rfl
  have y55 : yl ws ro_six q15_1_20_3_147_132 = some 20 := yl_get hD 55 e55 rfl
  have e56 : ws[56]? = some (q23_2_20_4_147_133, .inl (c0 0, 6, .inl (fun _ => 0))) := by rw [hws]; rfl
  have y56 : yl ws ro_six q23_2_20_4_147_133 = some 20 := yl_get hD 56 e56 rfl
  have e57 : ws[57]? = some (q29_5_147_134, .inl (c0 6, 8, .inr (.inr (.inr (.inr (va_up (va_up (va_up (va_up (va_up (va_up (va_up (va_up (fun _ => none) 0 (some q56_7_147_136)) 1 (some q56_8_147_137)) 2 (some q56_9_147_138)) 3 (some q56_10_147_139)) 4 (some q56_11_147_140)) 5 (some q56_12_147_141)) 6 (some q56_13_147_142)) 7 (some q56_14_147_143))))))) := by rw [hws]; rfl
  have y57 : yl ws ro_six q29_5_147_134 = some 21 := yl_get hD 57 e57 rfl
  have e58 : ws[58]? = some (q56_7_147_136, .inr (3, [.int 0, .int 0, .int 0, .int 0, .int 0, .int 0, .int 0, .int 0, .int 0, .int 0])) := by rw [hws]; rfl
  have y58 : yl ws ro_six q56_7_147_136 = some 3 := yl_get hD 58 e58 rfl
  have e59 : ws[59]? = some (q56_8_147_137, .inr (3, [.int 0, .int 0, .int 0, .int 0, .int 0, .int 0, .int 0, .int 0, .int 0, .int 0])) := by rw [hws]; rfl
  have y59 : yl ws ro_six q56_8_147_137 = some 3 := yl_get hD 59 e59 rfl
  have e60 : ws[60]? = some (q56_9_147_138, .inr (3, [.int 0, .int 0, .int 0, .int 0, .int 0, .int 0, .int 0, .int 0, .int 0, .int 0])) := by rw [hws]; rfl
  have y60 : yl ws ro_six q56_9_147_138 = some 3 := yl_get hD 60 e60 rfl
  have e61 : ws[61]? = some (q56_10_147_139, .inr (3, [.int 0, .int 0, .int 0, .int 0, .int 0, .int 0, .int 0, .int 0, .int 0, .int 0])) := by rw [hws]; rfl
  have y61 : yl ws ro_six q56_10_147_139 = some 3 := yl_get hD 61 e61 rfl
  have e62 : ws[62]? = some (q56_11_147_140, .inr (3, [.int 0, .int 0, .int 0, .int 0, .int 0, .int 0, .int 0, .int 0, .int 0, .int 0])) := by rw [hws]; rfl
  have y62 : yl ws ro_six q56_11_147_140 = some 3 := yl_get hD 62 e62 rfl
  have e63 : ws[63]? = some (q56_12_147_141, .inr (3, [.int 0, .int 0, .int 0, .int 0, .int 0, .int 0, .int 0, .int 0, .int 0, .int 0])) := by rw [hws]; rfl
  have y63 : yl ws ro_six q56_12_147_141 = some 3 := yl_get hD 63 e63 rfl
  have e64 : ws[64]? = some (q56_13_147_142, .inr (3, [.int 0, .int 0, .int 0, .int 0, .int 0, .int 0, .int 0, .int 0, .int 0, .int 0])) := by rw [hws]; rfl
  have y64 : yl ws ro_six q56_13_147_142 = some 3 := yl_get hD 64 e64 rfl
  have e65 : ws[65]? = some (q56_14_147_143, .inr (3, [.int 0, .int 0, .int 0, .int 0, .int 0, .int 0, .int 0, .int 0, .int 0, .int 0])) := by rw [hws]; rfl
  have y65 : yl ws ro_six q56_14_147_143 = some 3 := yl_get hD 65 e65 rfl
  have e66 : ws[66]? = some (q143_128, .inr (7, [.int 0, .int 0, .int 0, .int 0, .int 0, .long 0, .ref q5_0_147_129, .ref q16_1_147_130, .ref q29_5_147_134, .ref q38_6_147_135])) := by rw [hws]; rfl
  have y66 : yl ws ro_six q143_128 = some 7 := yl_get hD 66 e66 rfl
  have e67 : ws[67]? = some (q16_1_147_130, .inr (1, [.int 0, .ref q7_0_20_2_147_131, .ref q15_1_20_3_147_132, .ref q23_2_20_4_147_133])) := by rw [hws]; rfl
  have y67 : yl ws ro_six q16_1_147_130 = some 1 := yl_get hD 67 e67 rfl
  have e68 : ws[68]? = some (q38_6_147_135, .inl (c0 0, 64, .inl g_71_15_147_144)) := by rw [hws]; rfl
  have y68 : yl ws ro_six q38_6_147_135 = some 22 := yl_get hD 68 e68 rfl
  have e69 : ws[69]? = some (q5_0_147_129, .inr (0, [.int 0, .int 2, .int 0, .int 0, .int 0])) := by rw [hws]; rfl
  have y69 : yl ws ro_six q5_0_147_129 = some 0 := yl_get hD 69 e69 rfl
  have e70 : ws[70]? = some (q7_0_20_2_147_148, .inl (c0 0, 6, .inl (fun _ => 0))) := by rw [hws]; rfl
  have y70 : yl ws ro_six q7_0_20_2_147_148 = some 20 := yl_get hD 70 e70 rfl
  have e71 : ws[71]? = some (q15_1_20_3_147_149, .inl (c0 0, 6, .inl (fun _ => 0))) := by rw [hws]; rfl
  have y71 : yl ws ro_six q15_1_20_3_147_149 = some 20 := yl_get hD 71 e71 rfl
  have e72 : ws[72]? = some (q23_2_20_4_147_150, .inl (c0 0, 6, .inl (fun _ => 0))) := by rw [hws]; rfl
  have y72 : yl ws ro_six q23_2_20_4_147_150 = some 20 := yl_get hD 72 e72 rfl
  have e73 : ws[73]? = some (q29_5_147_151, .inl (c0 6, 8, .inr (.inr (.inr (.inr (va_up (va_up (va_up (va_up (va_up (va_up (va_up (va_up (fun _ => none) 0 (some q56_7_147_153)) 1 (some q56_8_147_154)) 2 (some q56_9_147_155)) 3 (some q56_10_147_156)) 4 (some q56_11_147_157)) 5 (some q56_12_147_158)) 6 (some q56_13_147_159)) 7 (some q56_14_147_160))))))) := by rw [hws]; rfl
  have y73 : yl ws ro_six q29_5_147_151 = some 21 := yl_get hD 73 e73 rfl
  have e74 : ws[74]? = some (q56_7_147_153, .inr (3, [.int 0, .int 0, .int 0, .int 0, .int 0, .int 0, .int 0, .int 0, .int 0, .int 0])) := by rw [hws]; rfl
  have y74 : yl ws ro_six q56_7_147_153 = some 3 := yl_get hD 74 e74 rfl
  have e75 : ws[75]? = some (q56_8_147_154, .inr (3, [.int 0, .int 0, .int 0, .int 0, .int 0, .int 0, .int 0, .int 0, .int 0, .int 0])) := by rw [hws]; rfl
  have y75 : yl ws ro_six q56_8_147_154 = some 3 := yl_get hD 75 e75 rfl
  have e76 : ws[76]? = some (q56_9_147_155, .inr (3, [.int 0, .int 0, .int 0, .int 0, .int 0, .int 0, .int 0, .int 0, .int 0, .int 0])) := by rw [hws]; rfl
  have y76 : yl ws ro_six q56_9_147_155 = some 3 := yl_get hD 76 e76 rfl
  have e77 : ws[77]? = some (q56_10_147_156, .inr (3, [.int 0, .int 0, .int 0, .int 0, .int 0, .int 0, .int 0, .int 0, .int 0, .int 0])) := by rw [hws]; rfl
  have y77 : yl ws ro_six q56_10_147_156 = some 3 := yl_get hD 77 e77 rfl
  have e78 : ws[78]? = some (q56_11_147_157, .inr (3, [.int 0, .int 0, .int 0, .int 0, .int 0, .int 0, .int 0, .int 0, .int 0, .int 0])) := by rw [hws]; rfl
  have y78 : yl ws ro_six q56_11_147_157 = some 3 := yl_get hD 78 e78 rfl
  have e79 : ws[79]? = some (q56_12_147_158, .inr (3, [.int 0, .int 0, .int 0, .int 0, .int 0, .int 0, .int 0, .int 0, .int 0, .int 0])) := by rw [hws]; rfl
  have y79 : yl ws ro_six q56_12_147_158 = some 3 := yl_get hD 79 e79 rfl
  have e80 : ws[80]? = some (q56_13_147_159, .inr (3, [.int 0, .int 0, .int 0, .int 0, .int 0, .int 0, .int 0, .int 0, .int 0, .int 0])) := by rw [hws]; rfl
  have y80 : yl ws ro_six q56_13_147_159 = some 3 := yl_get hD 80 e80 rfl
  have e81 : ws[81]? = some (q56_14_147_160, .inr (3, [.int 0, .int 0, .int 0, .int 0, .int 0, .int 0, .int 0, .int 0, .int 0, .int 0])) := by rw [hws]; rfl
  have y81 : yl ws ro_six q56_14_147_160 = some 3 := yl_get hD 81 e81 rfl
  have e82 : ws[82]? = some (q143_145, .inr (7, [.int 0, .int 0, .int 0, .int 0, .int 0, .long 0, .ref q5_0_147_146, .ref q16_1_147_147, .ref q29_5_147_151, .ref q38_6_147_152])) := by rw [hws]; rfl
  have y82 : yl ws ro_six q143_145 = some 7 := yl_get hD 82 e82 rfl
  have e83 : ws[83]? = some (q16_1_147_147, .inr (1, [.int 0, .ref q7_0_20_2_147_148, .ref q15_1_20_3_147_149, .ref q23_2_20_4_147_150])) := by rw [hws]; rfl
  have y83 : yl ws ro_six q16_1_147_147 = some 1 := yl_get hD 83 e83 rfl
  have e84 : ws[84]? = some (q38_6_147_152, .inl (c0 0, 64, .inl g_71_15_147_161)) := by rw [hws]; rfl
  have y84 : yl ws ro_six q38_6_147_152 = some 22 := yl_get hD 84 e84 rfl
  have e85 : ws[85]? = some (q5_0_147_146, .inr (0, [.int 0, .int 2, .int 0, .int 0, .int 0])) := by rw [hws]; rfl
  have y85 : yl ws ro_six q5_0_147_146 = some 0 := yl_get hD 85 e85 rfl
  have e86 : ws[86]? = some (q169_162, .inr (5, [.int 0, .int 0, .int 0, .ref q7_0_173_163])) := by rw [hws]; rfl
  have y86 : yl ws ro_six q169_162 = some 5 := yl_get hD 86 e86 rfl
  have e87 : ws[87]? = some (q7_0_173_163, .inl (c0 3, 60, .inr (.inl (fun _ => 0)))) := by rw [hws]; rfl
  have y87 : yl ws ro_six q7_0_173_163 = some 27 := yl_get hD 87 e87 rfl
  have e88 : ws[88]? = some (q169_164, .inr (5, [.int 0, .int 0, .int 0, .ref q7_0_173_165])) := by rw [hws]; rfl
  have y88 : yl ws ro_six q169_164 = some 5 := yl_get hD 88 e88 rfl
  have e89 : ws[89]? = some (q7_0_173_165, .inl (c0 3, 60, .inr (.inl (fun _ => 0)))) := by rw [hws]; rfl
  have y89 : yl ws ro_six q7_0_173_165 = some 27 := yl_get hD 89 e89 rfl
  have e90 : ws[90]? = some (q169_166, .inr (5, [.int 0, .int 0, .int 0, .ref q7_0_173_167])) := by rw [hws]; rfl
  have y90 : yl ws ro_six q169_166 = some 5 := yl_get hD 90 e90 rfl
  have e91 : ws[91]? = some (q7_0_173_167, .inl (c0 3, 60, .inr (.inl (fun _ => 0)))) := by rw [hws]; rfl
  have y91 : yl ws ro_six q7_0_173_167 = some 27 := yl_get hD 91 e91 rfl
  have e92 : ws[92]? = some (q169_168, .inr (5, [.int 0, .int 0, .int 0, .ref q7_0_173_169])) := by rw [hws]; rfl
  have y92 : yl ws ro_six q169_168 = some 5 := yl_get hD 92 e92 rfl
  have e93 : ws[93]? = some (q7_0_173_169, .inl (c0 3, 60, .inr (.inl (fun _ => 0)))) := by rw [hws]; rfl
  have y93 : yl ws ro_six q7_0_173_169 = some 27 := yl_get hD 93 e93 rfl
  refine ⟨yl_TI (yl_all (P := fun q r => ti_c D vwCl (tysOf c0) (yl ws ro_six) (RT1 false r) q H) _ _ ?_), y0, fun q h => ?_⟩
  · rw [show ws.zip ro_six = [((h0, .inr (9, [.ref q5_0, .ref q16_19, .ref q28_36, .ref q36_37, .ref q44_38, .ref q51_39, .ref q58_40, .ref q69_43, .ref q80_48, .ref q93_58, .ref q100_59])), 9), ((q5_0, .inr (6, [.ref q8_0_9_1, .int 0, .ref q14_1_9_2, .int 0, .int 0, .int 0, .int 0, .int 0, .int 0, .int 0, .int 0, .int (-1)])), 6), ((q8_0_9_1, .inl (c0 1, 1600, .inl (fun _ => 0))), 26), ((q7_0_20_2_18_4_9_5, .inl (c0 0, 6, .inl (fun _ => 0))), 20), ((q15_1_20_3_18_5_9_6, .inl (c0 0, 6, .inl (fun _ => 0))), 20), ((q23_2_20_4_18_6_9_7, .inl (c0 0, 6, .inl (fun _ => 0))), 20), ((q29_5_18_7_9_8, .inl (c0 6, 8, .inr (.inr (.inr (.inr (va_up (va_up (va_up (va_up (va_up (va_up (va_up (va_up (fun _ => none) 0 (some q56_7_18_9_9_10)) 1 (some q56_8_18_10_9_11)) 2 (some q56_9_18_11_9_12)) 3 (some q56_10_18_12_9_13)) 4 (some q56_11_18_13_9_14)) 5 (some q56_12_18_14_9_15)) 6 (some q56_13_18_15_9_16)) 7 (some q56_14_18_16_9_17))))))), 21), ((q56_7_18_9_9_10, .inr (3, [.int 0, .int 0, .int 0, .int 0, .int 0, .int 0, .int 0, .int 0, .int 0, .int 0])), 3), ((q56_8_18_10_9_11, .inr (3, [.int 0, .int 0, .int 0, .int 0, .int 0, .int 0, .int 0, .int 0, .int 0, .int 0])), 3), ((q56_9_18_11_9_12, .inr (3, [.int 0, .int 0, .int 0, .int 0, .int 0, .int 0, .int 0, .int 0, .int 0, .int 0])), 3), ((q56_10_18_12_9_13, .inr (3, [.int 0, .int 0, .int 0, .int 0, .int 0, .int 0, .int 0, .int 0, .int 0, .int 0])), 3), ((q56_11_18_13_9_14, .inr (3, [.int 0, .int 0, .int 0, .int 0, .int 0, .int 0, .int 0, .int 0, .int 0, .int 0])), 3), ((q56_12_18_14_9_15, .inr (3, [.int 0, .int 0, .int 0, .int 0, .int 0, .int 0, .int 0, .int 0, .int 0, .int 0])), 3), ((q56_13_18_15_9_16, .inr (3, [.int 0, .int 0, .int 0, .int 0, .int 0, .int 0, .int 0, .int 0, .int 0, .int 0])), 3), ((q56_14_18_16_9_17, .inr (3, [.int 0, .int 0, .int 0, .int 0, .int 0, .int 0, .int 0, .int 0, .int 0, .int 0])), 3), ((q14_1_9_2, .inr (7, [.int 0, .int 0, .int 0, .int 0, .int 0, .long 0, .ref q5_0_18_2_9_3, .ref q16_1_18_3_9_4, .ref q29_5_18_7_9_8, .ref q38_6_18_8_9_9])), 7), ((q16_1_18_3_9_4, .inr (1, [.int 0, .ref q7_0_20_2_18_4_9_5, .ref q15_1_20_3_18_5_9_6, .ref q23_2_20_4_18_6_9_7])), 1), ((q38_6_18_8_9_9, .inl (c0 0, 64, .inl g_71_15_18_17_9_18)), 22), ((q5_0_18_2_9_3, .inr (0, [.int 0, .int 2, .int 0, .int 0, .int 0])), 0), ((q7_0_20_2_20_22, .inl (c0 0, 6, .inl (fun _ => 0))), 20), ((q15_1_20_3_20_23, .inl (c0 0, 6, .inl (fun _ => 0))), 20), ((q23_2_20_4_20_24, .inl (c0 0, 6, .inl (fun _ => 0))), 20), ((q29_5_20_25, .inl (c0 6, 8, .inr (.inr (.inr (.inr (va_up (va_up (va_up (va_up (va_up (va_up (va_up (va_up (fun _ => none) 0 (some q56_7_20_27)) 1 (some q56_8_20_28)) 2 (some q56_9_20_29)) 3 (some q56_10_20_30)) 4 (some q56_11_20_31)) 5 (some q56_12_20_32)) 6 (some q56_13_20_33)) 7 (some q56_14_20_34))))))), 21), ((q56_7_20_27, .inr (3, [.int 0, .int 0, .int 0, .int 0, .int 0, .int 0, .int 0, .int 0, .int 0, .int 0])), 3), ((q56_8_20_28, .inr (3, [.int 0, .int 0, .int 0, .int 0, .int 0, .int 0, .int 0, .int 0, .int 0, .int 0])), 3), ((q56_9_20_29, .inr (3, [.int 0, .int 0, .int 0, .int 0, .int 0, .int 0, .int 0, .int 0, .int 0, .int 0])), 3), ((q56_10_20_30, .inr (3, [.int 0, .int 0, .int 0, .int 0, .int 0, .int 0, .int 0, .int 0, .int 0, .int 0])), 3), ((q56_11_20_31, .inr (3, [.int 0, .int 0, .int 0, .int 0, .int 0, .int 0, .int 0, .int 0, .int 0, .int 0])), 3), ((q56_12_20_32, .inr (3, [.int 0, .int 0, .int 0, .int 0, .int 0, .int 0, .int 0, .int 0, .int 0, .int 0])), 3), ((q56_13_20_33, .inr (3, [.int 0, .int 0, .int 0, .int 0, .int 0, .int 0, .int 0, .int 0, .int 0, .int 0])), 3), ((q56_14_20_34, .inr (3, [.int 0, .int 0, .int 0, .int 0, .int 0, .int 0, .int 0, .int 0, .int 0, .int 0])), 3), ((q16_19, .inr (7, [.int 0, .int 0, .int 0, .int 0, .int 0, .long 0, .ref q5_0_20_20, .ref q16_1_20_21, .ref q29_5_20_25, .ref q38_6_20_26])), 7), ((q16_1_20_21, .inr (1, [.int 0, .ref q7_0_20_2_20_22, .ref q15_1_20_3_20_23, .ref q23_2_20_4_20_24])), 1), ((q38_6_20_26, .inl (c0 0, 64, .inl g_71_15_20_35)), 22), ((q5_0_20_20, .inr (0, [.int 0, .int 2, .int 0, .int 0, .int 0])), 0), ((q36_37, .inl (c0 4, 3, .inr (.inr (.inr (.inr (va_up (va_up (va_up (fun _ => none) 0 (some q143_111)) 1 (some q143_128)) 2 (some q143_145))))))), 23), ((q44_38, .inl (c0 2, 3, .inl (fun _ => 0))), 24), ((q51_39, .inl (c0 5, 4, .inr (.inr (.inr (.inr (va_up (va_up (va_up (va_up (fun _ => none) 0 (some q169_162)) 1 (some q169_164)) 2 (some q169_166)) 3 (some q169_168))))))), 25), ((q7_0_20_2_147_114, .inl (c0 0, 6, .inl (fun _ => 0))), 20), ((q15_1_20_3_147_115, .inl (c0 0, 6, .inl (fun _ => 0))), 20), ((q23_2_20_4_147_116, .inl (c0 0, 6, .inl (fun _ => 0))), 20), ((q29_5_147_117, .inl (c0 6, 8, .inr (.inr (.inr (.inr (va_up (va_up (va_up (va_up (va_up (va_up (va_up (va_up (fun _ => none) 0 (some q56_7_147_119)) 1 (some q56_8_147_120)) 2 (some q56_9_147_121)) 3 (some q56_10_147_122)) 4 (some q56_11_147_123)) 5 (some q56_12_147_124)) 6 (some q56_13_147_125)) 7 (some q56_14_147_126))))))), 21), ((q56_7_147_119, .inr (3, [.int 0, .int 0, .int 0, .int 0, .int 0, .int 0, .int 0, .int 0, .int 0, .int 0])), 3), ((q56_8_147_120, .inr (3, [.int 0, .int 0, .int 0, .int 0, .int 0, .int 0, .int 0, .int 0, .int 0, .int 0])), 3), ((q56_9_147_121, .inr (3, [.int 0, .int 0, .int 0, .int 0, .int 0, .int 0, .int 0, .int 0, .int 0, .int 0])), 3), ((q56_10_147_122, .inr (3, [.int 0, .int 0, .int 0, .int 0, .int 0, .int 0, .int 0, .int 0, .int 0, .int 0])), 3), ((q56_11_147_123, .inr (3, [.int 0, .int 0, .int 0, .int 0, .int 0, .int 0, .int 0, .int 0, .int 0, .int 0])), 3), ((q56_12_147_124, .inr (3, [.int 0, .int 0, .int 0, .int 0, .int 0, .int 0, .int 0, .int 0, .int 0, .int 0])), 3), ((q56_13_147_125, .inr (3, [.int 0, .int 0, .int 0, .int 0, .int 0, .int 0, .int 0, .int 0, .int 0, .int 0])), 3), ((q56_14_147_126, .inr (3, [.int 0, .int 0, .int 0, .int 0, .int 0, .int 0, .int 0, .int 0, .int 0, .int 0])), 3), ((q143_111, .inr (7, [.int 0, .int 0, .int 0, .int 0, .int 0, .long 0, .ref q5_0_147_112, .ref q16_1_147_113, .ref q29_5_147_117, .ref q38_6_147_118])), 7), ((q16_1_147_113, .inr (1, [.int 0, .ref q7_0_20_2_147_114, .ref q15_1_20_3_147_115, .ref q23_2_20_4_147_116])), 1), ((q38_6_147_118, .inl (c0 0, 64, .inl g_71_15_147_127)), 22), ((q5_0_147_112, .inr (0, [.int 0, .int 2, .int 0, .int 0, .int 0])), 0), ((q7_0_20_2_147_131, .inl (c0 0, 6, .inl (fun _ => 0))), 20), ((q15_1_20_3_147_132, .inl (c0 0, 6, .inl (fun _ => 0))), 20), ((q23_2_20_4_147_133, .inl (c0 0, 6, .inl (fun _ => 0))), 20), ((q29_5_147_134, .inl (c0 6, 8, .inr (.inr (.inr (.inr (va_up (va_up (va_up (va_up (va_up (va_up (va_up (va_up (fun _ => none) 0 (some q56_7_147_136)) 1 (some q56_8_147_137)) 2 (some q56_9_147_138)) 3 (some q56_10_147_139)) 4 (some q56_11_147_140)) 5 (some q56_12_147_141)) 6 (some q56_13_147_142)) 7 (some q56_14_147_143))))))), 21), ((q56_7_147_136, .inr (3, [.int 0, .int 0, .int 0, .int 0, .int 0, .int 0, .int 0, .int 0, .int 0, .int 0])), 3), ((q56_8_147_137, .inr (3, [.int 0, .int 0, .int 0, .int 0, .int 0, .int 0, .int 0, .int 0, .int 0, .int 0])), 3), ((q56_9_147_138, .inr (3, [.int 0, .int 0, .int 0, .int 0, .int 0, .int 0, .int 0, .int 0, .int 0, .int 0])), 3), ((q56_10_147_139, .inr (3, [.int 0, .int 0, .int 0, .int 0, .int 0, .int 0, .int 0, .int 0, .int 0, .int 0])), 3), ((q56_11_147_140, .inr (3, [.int 0, .int 0, .int 0, .int 0, .int 0, .int 0, .int 0, .int 0, .int 0, .int 0])), 3), ((q56_12_147_141, .inr (3, [.int 0, .int 0, .int 0, .int 0, .int 0, .int 0, .int 0, .int 0, .int 0, .int 0])), 3), ((q56_13_147_142, .inr (3, [.int 0, .int 0, .int 0, .int 0, .int 0, .int 0, .int 0, .int 0, .int 0, .int 0])), 3), ((q56_14_147_143, .inr (3, [.int 0, .int 0, .int 0, .int 0, .int 0, .int 0, .int 0, .int 0, .int 0, .int 0])), 3), ((q143_128, .inr (7, [.int 0, .int 0, .int 0, .int 0, .int 0, .long 0, .ref q5_0_147_129, .ref q16_1_147_130, .ref q29_5_147_134, .ref q38_6_147_135])), 7), ((q16_1_147_130, .inr (1, [.int 0, .ref q7_0_20_2_147_131, .ref q15_1_20_3_147_132, .ref q23_2_20_4_147_133])), 1), ((q38_6_147_135, .inl (c0 0, 64, .inl g_71_15_147_144)), 22), ((q5_0_147_129, .inr (0, [.int 0, .int 2, .int 0, .int 0, .int 0])), 0), ((q7_0_20_2_147_148, .inl (c0 0, 6, .inl (fun _ => 0))), 20), ((q15_1_20_3_147_149, .inl (c0 0, 6, .inl (fun _ => 0))), 20), ((q23_2_20_4_147_150, .inl (c0 0, 6, .inl (fun _ => 0))), 20), ((q29_5_147_151, .inl (c0 6, 8, .inr (.inr (.inr (.inr (va_up (va_up (va_up (va_up (va_up (va_up (va_up (va_up (fun _ => none) 0 (some q56_7_147_153)) 1 (some q56_8_147_154)) 2 (some q56_9_147_155)) 3 (some q56_10_147_156)) 4 (some q56_11_147_157)) 5 (some q56_12_147_158)) 6 (some q56_13_147_159)) 7 (some q56_14_147_160))))))), 21), ((q56_7_147_153, .inr (3, [.int 0, .int 0, .int 0, .int 0, .int 0, .int 0, .int 0, .int 0, .int 0, .int 0])), 3), ((q56_8_147_154, .inr (3, [.int 0, .int 0, .int 0, .int 0, .int 0, .int 0, .int 0, .int 0, .int 0, .int 0])), 3), ((q56_9_147_155, .inr (3, [.int 0, .int 0, .int 0, .int 0, .int 0, .int 0, .int 0, .int 0, .int 0, .int 0])), 3), ((q56_10_147_156, .inr (3, [.int 0, .int 0, .int 0, .int 0, .int 0, .int 0, .int 0, .int 0, .int 0, .int 0])), 3), ((q56_11_147_157, .inr (3, [.int 0, .int 0, .int 0, .int 0, .int 0, .int 0, .int 0, .int 0, .int 0, .int 0])), 3), ((q56_12_147_158, .inr (3, [.int 0, .int 0, .int 0, .int 0, .int 0, .int 0, .int 0, .int 0, .int 0, .int 0])), 3), ((q56_13_147_159, .inr (3, [.int 0, .int 0, .int 0, .int 0, .int 0, .int 0, .int 0, .int 0, .int 0, .int 0])), 3), ((q56_14_147_160, .inr (3, [.int 0, .int 0, .int 0, .int 0, .int 0, .int 0, .int 0, .int 0, .int 0, .int 0])), 3), ((q143_145, .inr (7, [.int 0, .int 0, .int 0, .int 0, .int 0, .long 0, .ref q5_0_147_146, .ref q16_1_147_147, .ref q29_5_147_151, .ref q38_6_147_152])), 7), ((q16_1_147_147, .inr (1, [.int 0, .ref q7_0_20_2_147_148, .ref q15_1_20_3_147_149, .ref q23_2_20_4_147_150])), 1), ((q38_6_147_152, .inl (c0 0, 64, .inl g_71_15_147_161)), 22), ((q5_0_147_146, .inr (0, [.int 0, .int 2, .int 0, .int 0, .int 0])), 0), ((q169_162, .inr (5, [.int 0, .int 0, .int 0, .ref q7_0_173_163])), 5), ((q7_0_173_163, .inl (c0 3, 60, .inr (.inl (fun _ => 0)))), 27), ((q169_164, .inr (5, [.int 0, .int 0, .int 0, .ref q7_0_173_165])), 5), ((q7_0_173_165, .inl (c0 3, 60, .inr (.inl (fun _ => 0)))), 27), ((q169_166, .inr (5, [.int 0, .int 0, .int 0, .ref q7_0_173_167])), 5), ((q7_0_173_167, .inl (c0 3, 60, .inr (.inl (fun _ => 0)))), 27), ((q169_168, .inr (5, [.int 0, .int 0, .int 0, .ref q7_0_173_169])), 5), ((q7_0_173_169, .inl (c0 3, 60, .inr (.inl (fun _ => 0)))), 27)] by rw [hws]; rfl]
    refine List.forall_mem_cons.mpr ⟨tc_0 (hP 0 _ e0) y1 y31 y35 y36 y37, ?_⟩
    refine List.forall_mem_cons.mpr ⟨tc_1 (hP 1 _ e1) y2 y15, ?_⟩
    refine List.forall_mem_cons.mpr ⟨tc_2 (hP 2 _ e2) , ?_⟩
    refine List.forall_mem_cons.mpr ⟨tc_3 (hP 3 _ e3) , ?_⟩
    refine List.forall_mem_cons.mpr ⟨tc_3 (hP 4 _ e4) , ?_⟩
    refine List.forall_mem_cons.mpr ⟨tc_3 (hP 5 _ e5) , ?_⟩
    refine List.forall_mem_cons.mpr ⟨tc_4 (hP 6 _ e6) y7 y8 y9 y10 y11 y12 y13 y14, ?_⟩
    refine List.forall_mem_cons.mpr ⟨tc_5 (hP 7 _ e7) , ?_⟩
    refine List.forall_mem_cons.mpr ⟨tc_5 (hP 8 _ e8) , ?_⟩
    refine List.forall_mem_cons.mpr ⟨tc_5 (hP 9 _ e9) , ?_⟩
    refine List.forall_mem_cons.mpr ⟨tc_5 (hP 10 _ e10) , ?_⟩
    refine List.forall_mem_cons.mpr ⟨tc_5 (hP 11 _ e11) , ?_⟩
    refine List.forall_mem_cons.mpr ⟨tc_5 (hP 12 _ e12) , ?_⟩
    refine List.forall_mem_cons.mpr ⟨tc_5 (hP 13 _ e13) , ?_⟩
    refine List.forall_mem_cons.mpr ⟨tc_5 (hP 14 _ e14) , ?_⟩
    refine List.forall_mem_cons.mpr ⟨tc_6 (hP 15 _ e15) y18 y16 y6 y17, ?_⟩
    refine List.forall_mem_cons.mpr ⟨tc_7 (hP 16 _ e16) y3 y4 y5, ?_⟩
    refine List.forall_mem_cons.mpr ⟨tc_8 (hP 17 _ e17) , ?_⟩
    refine List.forall_mem_cons.mpr ⟨tc_9 (hP 18 _ e18) , ?_⟩
    refine List.forall_mem_cons.mpr ⟨tc_3 (hP 19 _ e19) , ?_⟩
    refine List.forall_mem_cons.mpr ⟨tc_3 (hP 20 _ e20) , ?_⟩
    refine List.forall_mem_cons.mpr ⟨tc_3 (hP 21 _ e21) , ?_⟩
    refine List.forall_mem_cons.mpr ⟨tc_4 (hP 22 _ e22) y23 y24 y25 y26 y27 y28 y29 y30, ?_⟩
    refine List.forall_mem_cons.mpr ⟨tc_5 (hP 23 _ e23) , ?_⟩
    refine List.forall_mem_cons.mpr ⟨tc_5 (hP 24 _ e24) , ?_⟩
    refine List.forall_mem_cons.mpr ⟨tc_5 (hP 25 _ e25) , ?_⟩
    refine List.forall_mem_cons.mpr ⟨tc_5 (hP 26 _ e26) , ?_⟩
    refine List.forall_mem_cons.mpr ⟨tc_5 (hP 27 _ e27) , ?_⟩
    refine List.forall_mem_cons.mpr ⟨tc_5 (hP 28 _ e28) , ?_⟩
    refine List.forall_mem_cons.mpr ⟨tc_5 (hP 29 _ e29) , ?_⟩
    refine List.forall_mem_cons.mpr ⟨tc_5 (hP 30 _ e30) , ?_⟩
    refine List.forall_mem_cons.mpr ⟨tc_6 (hP 31 _ e31) y34 y32 y22 y33, ?_⟩
    refine List.forall_mem_cons.mpr ⟨tc_7 (hP 32 _ e32) y19 y20 y21, ?_⟩
    refine List.forall_mem_cons.mpr ⟨tc_8 (hP 33 _ e33) , ?_⟩
    refine List.forall_mem_cons.mpr ⟨tc_9 (hP 34 _ e34) , ?_⟩
    refine List.forall_mem_cons.mpr ⟨tc_10 (hP 35 _ e35) y50 y66 y82, ?_⟩
    refine List.forall_mem_cons.mpr ⟨tc_11 (hP 36 _ e36) , ?_⟩
    refine List.forall_mem_cons.mpr ⟨tc_12 (hP 37 _ e37) y86 y88 y90 y92, ?_⟩
    refine List.forall_mem_cons.mpr ⟨tc_3 (hP 38 _ e38) , ?_⟩
    refine List.forall_mem_cons.mpr ⟨tc_3 (hP 39 _ e39) , ?_⟩
    refine List.forall_mem_cons.mpr ⟨tc_3 (hP 40 _ e40) , ?_⟩
    refine List.forall_mem_cons.mpr ⟨tc_4 (hP 41 _ e41) y42 y43 y44 y45 y46 y47 y48 y49, ?_⟩
    refine List.forall_mem_cons.mpr ⟨tc_5 (hP 42 _ e42) , ?_⟩
    refine List.forall_mem_cons.mpr ⟨tc_5 (hP 43 _ e43) , ?_⟩
    refine List.forall_mem_cons.mpr ⟨tc_5 (hP 44 _ e44) , ?_⟩
    refine List.forall_mem_cons.mpr ⟨tc_5 (hP 45 _ e45) , ?_⟩
    refine List.forall_mem_cons.mpr ⟨tc_5 (hP 46 _ e46) , ?_⟩
    refine List.forall_mem_cons.mpr ⟨tc_5 (hP 47 _ e47) , ?_⟩
    refine List.forall_mem_cons.mpr ⟨tc_5 (hP 48 _ e48) , ?_⟩
    refine List.forall_mem_cons.mpr ⟨tc_5 (hP 49 _ e49) , ?_⟩
    refine List.forall_mem_cons.mpr ⟨tc_6 (hP 50 _ e50) y53 y51 y41 y52, ?_⟩
    refine List.forall_mem_cons.mpr ⟨tc_7 (hP 51 _ e51) y38 y39 y40, ?_⟩
    refine List.forall_mem_cons.mpr ⟨tc_8 (hP 52 _ e52) , ?_⟩
    refine List.forall_mem_cons.mpr ⟨tc_9 (hP 53 _ e53) , ?_⟩
    refine List.forall_mem_cons.mpr ⟨tc_3 (hP 54 _ e54) , ?_⟩
    refine List.forall_mem_cons.mpr ⟨tc_3 (hP 55 _ e55) , ?_⟩
    refine List.forall_mem_cons.mpr ⟨tc_3 (hP 56 _ e56) , ?_⟩
    refine List.forall_mem_cons.mpr ⟨tc_4 (hP 57 _ e57) y58 y59 y60 y61 y62 y63 y64 y65, ?_⟩
    refine List.forall_mem_cons.mpr ⟨tc_5 (hP 58 _ e58) , ?_⟩
    refine List.forall_mem_cons.mpr ⟨tc_5 (hP 59 _ e59) , ?_⟩
    refine List.forall_mem_cons.mpr ⟨tc_5 (hP 60 _ e60) , ?_⟩
    refine List.forall_mem_cons.mpr ⟨tc_5 (hP 61 _ e61) , ?_⟩
    refine List.forall_mem_cons.mpr ⟨tc_5 (hP 62 _ e62) , ?_⟩
    refine List.forall_mem_cons.mpr ⟨tc_5 (hP 63 _ e63) , ?_⟩
    refine List.forall_mem_cons.mpr ⟨tc_5 (hP 64 _ e64) , ?_⟩
    refine List.forall_mem_cons.mpr ⟨tc_5 (hP 65 _ e65) , ?_⟩
    refine List.forall_mem_cons.mpr ⟨tc_6 (hP 66 _ e66) y69 y67 y57 y68, ?_⟩
    refine List.forall_mem_cons.mpr ⟨tc_7 (hP 67 _ e67) y54 y55 y56, ?_⟩
    refine List.forall_mem_cons.mpr ⟨tc_8 (hP 68 _ e68) , ?_⟩
    refine List.forall_mem_cons.mpr ⟨tc_9 (hP 69 _ e69) , ?_⟩
    refine List.forall_mem_cons.mpr ⟨tc_3 (hP 70 _ e70) , ?_⟩
    refine List.forall_mem_cons.mpr ⟨tc_3 (hP 71 _ e71) , ?_⟩
    refine List.forall_mem_cons.mpr ⟨tc_3 (hP 72 _ e72) , ?_⟩
    refine List.forall_mem_cons.mpr ⟨tc_4 (hP 73 _ e73) y74 y75 y76 y77 y78 y79 y80 y81, ?_⟩
    refine List.forall_mem_cons.mpr ⟨tc_5 (hP 74 _ e74) , ?_⟩
    refine List.forall_mem_cons.mpr ⟨tc_5 (hP 75 _ e75) , ?_⟩
    refine List.forall_mem_cons.mpr ⟨tc_5 (hP 76 _ e76) , ?_⟩
    refine List.forall_mem_cons.mpr ⟨tc_5 (hP 77 _ e77) , ?_⟩
    refine List.forall_mem_cons.mpr ⟨tc_5 (hP 78 _ e78) , ?_⟩
    refine List.forall_mem_cons.mpr ⟨tc_5 (hP 79 _ e79) , ?_⟩
    refine List.forall_mem_cons.mpr ⟨tc_5 (hP 80 _ e80) , ?_⟩
    refine List.forall_mem_cons.mpr ⟨tc_5 (hP 81 _ e81) , ?_⟩
    refine List.forall_mem_cons.mpr ⟨tc_6 (hP 82 _ e82) y85 y83 y73 y84, ?_⟩
    refine List.forall_mem_cons.mpr ⟨tc_7 (hP 83 _ e83) y70 y71 y72, ?_⟩
    refine List.forall_mem_cons.mpr ⟨tc_8 (hP 84 _ e84) , ?_⟩
    refine List.forall_mem_cons.mpr ⟨tc_9 (hP 85 _ e85) , ?_⟩
    refine List.forall_mem_cons.mpr ⟨tc_13 (hP 86 _ e86) y87, ?_⟩
    refine List.forall_mem_cons.mpr ⟨tc_14 (hP 87 _ e87) , ?_⟩
    refine List.forall_mem_cons.mpr ⟨tc_13 (hP 88 _ e88) y89, ?_⟩
    refine List.forall_mem_cons.mpr ⟨tc_14 (hP 89 _ e89) , ?_⟩
    refine List.forall_mem_cons.mpr ⟨tc_13 (hP 90 _ e90) y91, ?_⟩
    refine List.forall_mem_cons.mpr ⟨tc_14 (hP 91 _ e91) , ?_⟩
    refine List.forall_mem_cons.mpr ⟨tc_13 (hP 92 _ e92) y93, ?_⟩
    refine List.forall_mem_cons.mpr ⟨tc_14 (hP 93 _ e93) , ?_⟩
    exact fun _ h => absurd h List.not_mem_nil
  · obtain ⟨r, hr⟩ := h
    obtain ⟨k, e, h1, -⟩ := yl_inv hr
    exact hD.2 k _ h1
def ro_mod : List Nat := [10, 31, 32, 33, 34, 35, 36, 37, 38, 39, 30]
set_option maxHeartbeats 8000000 in
set_option maxRecDepth 100000 in
theorem ty_mod {D : va_G} {c0 : Nat → ClassId} {H : Heap} {A : Nat → Prop} {ws : va_W} {h0 : Nat} {q8_0 : Nat} {q17_1 : Nat} {q24_2 : Nat} {q31_3 : Nat} {q40_4 : Nat} {q47_5 : Nat} {q61_6 : Nat} {q70_7 : Nat} {q77_8 : Nat} {q85_9 : Nat} {q93_10 : Nat} {q100_11 : Nat} {q108_12 : Nat} {q116_13 : Nat} {q123_14 : Nat} {q131_15 : Nat} {q139_16 : Nat} {q147_17 : Nat} {q154_18 : Nat} {q161_19 : Nat} {q168_20 : Nat} {q191_21 : Nat} {q200_22 : Nat} {q208_23 : Nat} {g_217_24 : Nat → Int32} (hE : ∀ j : Nat, j < 16 → g_217_24 j = if j = 3 then 2 else 0) (hws : ws = [(h0, .inr (10, [.int 0, .ref q8_0, .ref q17_1, .ref q24_2, .ref q31_3, .ref q40_4, .int 0, .ref q47_5, .int 0, .int 0, .int 0, .int 0, .int 0, .int 0, .int (-1), .ref q61_6, .long 0, .ref q70_7, .ref q77_8, .int 0, .ref q85_9, .ref q93_10, .int 0, .int 0, .ref q100_11, .ref q108_12, .ref q116_13, .int 0, .ref q123_14, .ref q131_15, .ref q139_16, .ref q147_17, .ref q154_18, .ref q161_19, .ref q168_20, .ref q191_21, .ref q200_22, .ref q208_23])), (q17_1, .inl (c0 0, 534, .inl (fun _ => 0))), (q24_2, .inl (c0 3, 3, .inr (.inl (fun _ => 0)))), (q31_3, .inl (c0 2, 3, .inl (fun _ => 0))), (q40_4, .inl (c0 1, 1600, .inl (fun _ => 0))), (q47_5, .inl (c0 0, 5, .inl (fun _ => 0))), (q61_6, .inl (c0 0, 178, .inl (fun _ => 0))), (q168_20, .inl (c0 0, 4, .inl (upd (upd (upd (upd (fun _ => 0) 0 (-1)) 1 (-1)) 2 (-1)) 3 (-1)))), (q191_21, .inl (c0 0, 4, .inl (fun _ => 0))), (q200_22, .inl (c0 3, 240, .inr (.inl (fun _ => 0)))), (q8_0, .inl (c0 0, 178, .inl g_217_24))]) (hP : va_P D vwCl ws H) (hD : va_D A ws) : TI D vwCl (tysOf c0) (RT1 false) (yl ws ro_mod) H ∧ yl ws ro_mod h0 = some 10 ∧ ∀ q, pA (yl ws ro_mod) q → A q := by
  have e0 : ws[0]? = some (h0, .inr (10, [.int 0, .ref q8_0, .ref q17_1, .ref q24_2, .ref q31_3, .ref q40_4, .int 0, .ref q47_5, .int 0, .int 0, .int 0, .int 0, .int 0, .int 0, .int (-1), .ref q61_6, .long 0, .ref q70_7, .ref q77_8, .int 0, .ref q85_9, .ref q93_10, .int 0, .int 0, .ref q100_11, .ref q108_12, .ref q116_13, .int 0, .ref q123_14, .ref q131_15, .ref q139_16, .ref q147_17, .ref q154_18, .ref q161_19, .ref q168_20, .ref q191_21, .ref q200_22, .ref q208_23])) := by rw [hws]; rfl
  have y0 : yl ws ro_mod h0 = some 10 := yl_get hD 0 e0 rfl
  have e1 : ws[1]? = some (q17_1, .inl (c0 0, 534, .inl (fun _ => 0))) := by rw [hws]; rfl
  have y1 : yl ws ro_mod q17_1 = some 31 := yl_get hD 1 e1 rfl
  have e2 : ws[2]? = some (q24_2, .inl (c0 3, 3, .inr (.inl (fun _ => 0)))) := by rw [hws]; rfl
  have y2 : yl ws ro_mod q24_2 = some 32 := yl_get hD 2 e2 rfl
  have e3 : ws[3]? = some (q31_3, .inl (c0 2, 3, .inl (fun _ => 0))) := by rw [hws]; rfl
  have y3 : yl ws ro_mod q31_3 = some 33 := yl_get hD 3 e3 rfl
  have e4 : ws[4]? = some (q40_4, .inl (c0 1, 1600, .inl (fun _ => 0))) := by rw [hws]; rfl
  have y4 : yl ws ro_mod q40_4 = some 34 := yl_get hD 4 e4 rfl
  have e5 : ws[5]? = some (q47_5, .inl (c0 0, 5, .inl (fun _ => 0))) := by rw [hws]; rfl
  have y5 : yl ws ro_mod q47_5 = some 35 := yl_get hD 5 e5 rfl
  have e6 : ws[6]? = some (q61_6, .inl (c0 0, 178, .inl (fun _ => 0))) := by rw [hws]; rfl
  have y6 : yl ws ro_mod q61_6 = some 36 := yl_get hD 6 e6 rfl
  have e7 : ws[7]? = some (q168_20, .inl (c0 0, 4, .inl (upd (upd (upd (upd (fun _ => 0) 0 (-1)) 1 (-1)) 2 (-1)) 3 (-1)))) := by rw [hws]; rfl
  have y7 : yl ws ro_mod q168_20 = some 37 := yl_get hD 7 e7 rfl
  have e8 : ws[8]? = some (q191_21, .inl (c0 0, 4, .inl (fun _ => 0))) := by rw [hws]; rfl
  have y8 : yl ws ro_mod q191_21 = some 38 := yl_get hD 8 e8 rfl
  have e9 : ws[9]? = some (q200_22, .inl (c0 3, 240, .inr (.inl (fun _ => 0)))) := by rw [hws]; rfl
  have y9 : yl ws ro_mod q200_22 = some 39 := yl_get hD 9 e9 rfl
  have e10 : ws[10]? = some (q8_0, .inl (c0 0, 178, .inl g_217_24)) := by rw [hws]; rfl
  have y10 : yl ws ro_mod q8_0 = some 30 := yl_get hD 10 e10 rfl
  refine ⟨yl_TI (yl_all (P := fun q r => ti_c D vwCl (tysOf c0) (yl ws ro_mod) (RT1 false r) q H) _ _ ?_), y0, fun q h => ?_⟩
  · rw [show ws.zip ro_mod = [((h0, .inr (10, [.int 0, .ref q8_0, .ref q17_1, .ref q24_2, .ref q31_3, .ref q40_4, .int 0, .ref q47_5, .int 0, .int 0, .int 0, .int 0, .int 0, .int 0, .int (-1), .ref q61_6, .long 0, .ref q70_7, .ref q77_8, .int 0, .ref q85_9, .ref q93_10, .int 0, .int 0, .ref q100_11, .ref q108_12, .ref q116_13, .int 0, .ref q123_14, .ref q131_15, .ref q139_16, .ref q147_17, .ref q154_18, .ref q161_19, .ref q168_20, .ref q191_21, .ref q200_22, .ref q208_23])), 10), ((q17_1, .inl (c0 0, 534, .inl (fun _ => 0))), 31), ((q24_2, .inl (c0 3, 3, .inr (.inl (fun _ => 0)))), 32), ((q31_3, .inl (c0 2, 3, .inl (fun _ => 0))), 33), ((q40_4, .inl (c0 1, 1600, .inl (fun _ => 0))), 34), ((q47_5, .inl (c0 0, 5, .inl (fun _ => 0))), 35), ((q61_6, .inl (c0 0, 178, .inl (fun _ => 0))), 36), ((q168_20, .inl (c0 0, 4, .inl (upd (upd (upd (upd (fun _ => 0) 0 (-1)) 1 (-1)) 2 (-1)) 3 (-1)))), 37), ((q191_21, .inl (c0 0, 4, .inl (fun _ => 0))), 38), ((q200_22, .inl (c0 3, 240, .inr (.inl (fun _ => 0)))), 39), ((q8_0, .inl (c0 0, 178, .inl g_217_24)), 30)] by rw [hws]; rfl]
    refine List.forall_mem_cons.mpr ⟨tc_15 (hP 0 _ e0) y10 y1 y2 y3 y4 y5 y6 y7 y8 y9, ?_⟩
    refine List.forall_mem_cons.mpr ⟨tc_16 (hP 1 _ e1) , ?_⟩
    refine List.forall_mem_cons.mpr ⟨tc_17 (hP 2 _ e2) , ?_⟩
    refine List.forall_mem_cons.mpr ⟨tc_18 (hP 3 _ e3) , ?_⟩
    refine List.forall_mem_cons.mpr ⟨tc_19 (hP 4 _ e4) , ?_⟩
    refine List.forall_mem_cons.mpr ⟨tc_20 (hP 5 _ e5) , ?_⟩
    refine List.forall_mem_cons.mpr ⟨tc_21 (hP 6 _ e6) , ?_⟩
    refine List.forall_mem_cons.mpr ⟨tc_22 (hP 7 _ e7) , ?_⟩
    refine List.forall_mem_cons.mpr ⟨tc_23 (hP 8 _ e8) , ?_⟩
    refine List.forall_mem_cons.mpr ⟨tc_24 (hP 9 _ e9) , ?_⟩
    refine List.forall_mem_cons.mpr ⟨tc_25 (hP 10 _ e10) hE, ?_⟩
    exact fun _ h => absurd h List.not_mem_nil
  · obtain ⟨r, hr⟩ := h
    obtain ⟨k, e, h1, -⟩ := yl_inv hr
    exact hD.2 k _ h1
