theorem tc_0 {D : va_G} {c0 : Nat → ClassId} {Y : Nat → Option Nat} {H : Heap} {q a0 a2 : Nat} (h : va_at D vwCl (q, .inr (6, [.ref a0, .int 0, .ref a2, .int 0, .int 0, .int 0, .int 0, .int 0, .int 0, .int 0, .int 0, .int (-1)])) H) (h0 : Y a0 = some 26) (h2 : Y a2 = some 7) : ti_c D vwCl (tysOf c0) Y (RTg (fun _ => 0) 6) q H :=
  ⟨_, h, rfl, fun k t hk => match k, hk with
      | 0, h => by cases h; exact ⟨_, rfl, ⟨a0, rfl, h0⟩⟩
      | 1, h => by cases h; exact ⟨_, rfl, ⟨0, rfl, iv_w (iv_c (x := (0 : Int32)) (k := 0) (by decide)) (by decide)⟩⟩
      | 2, h => by cases h; exact ⟨_, rfl, ⟨a2, rfl, h2⟩⟩
      | 3, h => by cases h; exact ⟨_, rfl, ⟨0, rfl, iv_w (iv_c (x := (0 : Int32)) (k := 0) (by decide)) (by decide)⟩⟩
      | 4, h => by cases h; exact ⟨_, rfl, ⟨0, rfl, iv_w (iv_c (x := (0 : Int32)) (k := 0) (by decide)) (by decide)⟩⟩
      | 5, h => by cases h; exact ⟨_, rfl, ⟨0, rfl, iv_w (iv_c (x := (0 : Int32)) (k := 0) (by decide)) (by decide)⟩⟩
      | 6, h => by cases h; exact ⟨_, rfl, ⟨0, rfl, iv_w (iv_c (x := (0 : Int32)) (k := 0) (by decide)) (by decide)⟩⟩
      | 7, h => by cases h; exact ⟨_, rfl, ⟨0, rfl, iv_w (iv_c (x := (0 : Int32)) (k := 0) (by decide)) (by decide)⟩⟩
      | 8, h => by cases h; exact ⟨_, rfl, ⟨0, rfl, iv_w (iv_c (x := (0 : Int32)) (k := 0) (by decide)) (by decide)⟩⟩
      | 9, h => by cases h; exact ⟨_, rfl, ⟨0, rfl, iv_w (iv_c (x := (0 : Int32)) (k := 0) (by decide)) (by decide)⟩⟩
      | 10, h => by cases h; exact ⟨_, rfl, ⟨0, rfl, iv_w (iv_c (x := (0 : Int32)) (k := 0) (by decide)) (by decide)⟩⟩
      | 11, h => by cases h; exact ⟨_, rfl, ⟨(-1), rfl, iv_w (iv_c (x := ((-1) : Int32)) (k := (-1)) (by decide)) (by decide)⟩⟩
      | k + 12, h => absurd (List.getElem?_eq_some_iff.mp h).1 (by show ¬ (k + 12 < 12); omega), trivial⟩
theorem tc_1 {D : va_G} {c0 : Nat → ClassId} {Y : Nat → Option Nat} {H : Heap} {q : Nat} (h : va_at D vwCl (q, .inl (c0 1, 1600, .inl (fun _ => 0))) H)  : ti_c D vwCl (tysOf c0) Y (RTg (fun _ => 0) 26) q H :=
  tc_ints (RT := RTg (fun _ => 0)) (r := 26) (ty := .byte) rfl rfl h (fun _ _ => ⟨0, rfl, iv_w (iv_c (x := (0 : Int32)) (k := 0) (by decide)) (by decide)⟩) trivial
theorem tc_2 {D : va_G} {c0 : Nat → ClassId} {Y : Nat → Option Nat} {H : Heap} {q : Nat} (h : va_at D vwCl (q, .inl (c0 0, 6, .inl (fun _ => 0))) H)  : ti_c D vwCl (tysOf c0) Y (RTg (fun _ => 0) 20) q H :=
  tc_ints (RT := RTg (fun _ => 0)) (r := 20) (ty := .int) rfl rfl h (fun _ _ => ⟨0, rfl, iv_w (iv_c (x := (0 : Int32)) (k := 0) (by decide)) (by decide)⟩) trivial
theorem tc_3 {D : va_G} {c0 : Nat → ClassId} {Y : Nat → Option Nat} {H : Heap} {q : Nat} (h : va_at D vwCl (q, .inl (c0 0, 6, .inl (fun _ => 0))) H)  : ti_c D vwCl (tysOf c0) Y (RTg (fun _ => 0) 28) q H :=
  tc_ints (RT := RTg (fun _ => 0)) (r := 28) (ty := .int) rfl rfl h (fun _ _ => ⟨0, rfl, iv_w (iv_c (x := (0 : Int32)) (k := 0) (by decide)) (by decide)⟩) trivial
theorem tc_4 {D : va_G} {c0 : Nat → ClassId} {Y : Nat → Option Nat} {H : Heap} {q : Nat} {a0 a1 a2 a3 a4 a5 a6 a7 : Nat} (h : va_at D vwCl (q, .inl (c0 6, 8, .inr (.inr (.inr (.inr (va_up (va_up (va_up (va_up (va_up (va_up (va_up (va_up (fun _ => none) 0 (some a0)) 1 (some a1)) 2 (some a2)) 3 (some a3)) 4 (some a4)) 5 (some a5)) 6 (some a6)) 7 (some a7))))))) H) (h0 : Y a0 = some 3) (h1 : Y a1 = some 3) (h2 : Y a2 = some 3) (h3 : Y a3 = some 3) (h4 : Y a4 = some 3) (h5 : Y a5 = some 3) (h6 : Y a6 = some 3) (h7 : Y a7 = some 3) : ti_c D vwCl (tysOf c0) Y (RTg (fun _ => 0) 21) q H :=
  tc_refs (RT := RTg (fun _ => 0)) (r := 21) (ty := (.object "SixStroke$Person")) rfl rfl h (fun j hj => match j, hj with
      | 0, _ => ⟨a0, rfl, h0⟩
      | 1, _ => ⟨a1, rfl, h1⟩
      | 2, _ => ⟨a2, rfl, h2⟩
      | 3, _ => ⟨a3, rfl, h3⟩
      | 4, _ => ⟨a4, rfl, h4⟩
      | 5, _ => ⟨a5, rfl, h5⟩
      | 6, _ => ⟨a6, rfl, h6⟩
      | 7, _ => ⟨a7, rfl, h7⟩
      | k + 8, h => absurd (show k + 8 < 8 from h) (by omega)) trivial
theorem tc_5 {D : va_G} {c0 : Nat → ClassId} {Y : Nat → Option Nat} {H : Heap} {q : Nat} (h : va_at D vwCl (q, .inr (3, [.int 0, .int 0, .int 0, .int 0, .int 0, .int 0, .int 0, .int 0, .int 0, .int 0])) H)  : ti_c D vwCl (tysOf c0) Y (RTg (fun _ => 0) 3) q H :=
  ⟨_, h, rfl, fun k t hk => match k, hk with
      | 0, h => by cases h; exact ⟨_, rfl, ⟨0, rfl, iv_w (iv_c (x := (0 : Int32)) (k := 0) (by decide)) (by decide)⟩⟩
      | 1, h => by cases h; exact ⟨_, rfl, ⟨0, rfl, iv_w (iv_c (x := (0 : Int32)) (k := 0) (by decide)) (by decide)⟩⟩
      | 2, h => by cases h; exact ⟨_, rfl, ⟨0, rfl, iv_w (iv_c (x := (0 : Int32)) (k := 0) (by decide)) (by decide)⟩⟩
      | 3, h => by cases h; exact ⟨_, rfl, ⟨0, rfl, iv_w (iv_c (x := (0 : Int32)) (k := 0) (by decide)) (by decide)⟩⟩
      | 4, h => by cases h; exact ⟨_, rfl, ⟨0, rfl, iv_w (iv_c (x := (0 : Int32)) (k := 0) (by decide)) (by decide)⟩⟩
      | 5, h => by cases h; exact ⟨_, rfl, ⟨0, rfl, iv_w (iv_c (x := (0 : Int32)) (k := 0) (by decide)) (by decide)⟩⟩
      | 6, h => by cases h; exact ⟨_, rfl, ⟨0, rfl, iv_w (iv_c (x := (0 : Int32)) (k := 0) (by decide)) (by decide)⟩⟩
      | 7, h => by cases h; exact ⟨_, rfl, ⟨0, rfl, iv_w (iv_c (x := (0 : Int32)) (k := 0) (by decide)) (by decide)⟩⟩
      | 8, h => by cases h; exact ⟨_, rfl, ⟨0, rfl, iv_w (iv_c (x := (0 : Int32)) (k := 0) (by decide)) (by decide)⟩⟩
      | 9, h => by cases h; exact ⟨_, rfl, ⟨0, rfl, iv_w (iv_c (x := (0 : Int32)) (k := 0) (by decide)) (by decide)⟩⟩
      | k + 10, h => absurd (List.getElem?_eq_some_iff.mp h).1 (by show ¬ (k + 10 < 10); omega), trivial⟩
theorem tc_6 {D : va_G} {c0 : Nat → ClassId} {Y : Nat → Option Nat} {H : Heap} {q a6 a7 a8 a9 : Nat} (h : va_at D vwCl (q, .inr (7, [.int 0, .int 0, .int 0, .int 0, .int 0, .long 0, .ref a6, .ref a7, .ref a8, .ref a9])) H) (h6 : Y a6 = some 0) (h7 : Y a7 = some 1) (h8 : Y a8 = some 21) (h9 : Y a9 = some 22) : ti_c D vwCl (tysOf c0) Y (RTg (fun _ => 0) 7) q H :=
  ⟨_, h, rfl, fun k t hk => match k, hk with
      | 0, h => by cases h; exact ⟨_, rfl, ⟨0, rfl, iv_w (iv_c (x := (0 : Int32)) (k := 0) (by decide)) (by decide)⟩⟩
      | 1, h => by cases h; exact ⟨_, rfl, ⟨0, rfl, iv_w (iv_c (x := (0 : Int32)) (k := 0) (by decide)) (by decide)⟩⟩
      | 2, h => by cases h; exact ⟨_, rfl, ⟨0, rfl, iv_w (iv_c (x := (0 : Int32)) (k := 0) (by decide)) (by decide)⟩⟩
      | 3, h => by cases h; exact ⟨_, rfl, ⟨0, rfl, iv_w (iv_c (x := (0 : Int32)) (k := 0) (by decide)) (by decide)⟩⟩
      | 4, h => by cases h; exact ⟨_, rfl, ⟨0, rfl, iv_w (iv_c (x := (0 : Int32)) (k := 0) (by decide)) (by decide)⟩⟩
      | 5, h => by cases h; exact ⟨_, rfl, ⟨_, rfl⟩⟩
      | 6, h => by cases h; exact ⟨_, rfl, ⟨a6, rfl, h6⟩⟩
      | 7, h => by cases h; exact ⟨_, rfl, ⟨a7, rfl, h7⟩⟩
      | 8, h => by cases h; exact ⟨_, rfl, ⟨a8, rfl, h8⟩⟩
      | 9, h => by cases h; exact ⟨_, rfl, ⟨a9, rfl, h9⟩⟩
      | k + 10, h => absurd (List.getElem?_eq_some_iff.mp h).1 (by show ¬ (k + 10 < 10); omega), trivial⟩
theorem tc_7 {D : va_G} {c0 : Nat → ClassId} {Y : Nat → Option Nat} {H : Heap} {q a1 a2 a3 : Nat} (h : va_at D vwCl (q, .inr (1, [.int 0, .ref a1, .ref a2, .ref a3])) H) (h1 : Y a1 = some 20) (h2 : Y a2 = some 20) (h3 : Y a3 = some 28) : ti_c D vwCl (tysOf c0) Y (RTg (fun _ => 0) 1) q H :=
  ⟨_, h, rfl, fun k t hk => match k, hk with
      | 0, h => by cases h; exact ⟨_, rfl, ⟨0, rfl, iv_w (iv_c (x := (0 : Int32)) (k := 0) (by decide)) (by decide)⟩⟩
      | 1, h => by cases h; exact ⟨_, rfl, ⟨a1, rfl, h1⟩⟩
      | 2, h => by cases h; exact ⟨_, rfl, ⟨a2, rfl, h2⟩⟩
      | 3, h => by cases h; exact ⟨_, rfl, ⟨a3, rfl, h3⟩⟩
      | k + 4, h => absurd (List.getElem?_eq_some_iff.mp h).1 (by show ¬ (k + 4 < 4); omega), trivial⟩
theorem tc_8 {D : va_G} {c0 : Nat → ClassId} {Y : Nat → Option Nat} {H : Heap} {q : Nat} {g : Nat → Int32} (h : va_at D vwCl (q, .inl (c0 0, 64, .inl g)) H)  : ti_c D vwCl (tysOf c0) Y (RTg (fun _ => 0) 22) q H :=
  tc_ints (RT := RTg (fun _ => 0)) (r := 22) (ty := .int) rfl rfl h (fun _ _ => ⟨_, rfl, iv_top _⟩) trivial
theorem tc_9 {D : va_G} {c0 : Nat → ClassId} {Y : Nat → Option Nat} {H : Heap} {q : Nat} (h : va_at D vwCl (q, .inr (0, [.int 0, .int 2, .int 0, .int 0, .int 0])) H)  : ti_c D vwCl (tysOf c0) Y (RTg (fun _ => 0) 0) q H :=
  ⟨_, h, rfl, fun k t hk => match k, hk with
      | 0, h => by cases h; exact ⟨_, rfl, ⟨0, rfl, iv_w (iv_c (x := (0 : Int32)) (k := 0) (by decide)) (by decide)⟩⟩
      | 1, h => by cases h; exact ⟨_, rfl, ⟨2, rfl, iv_w (iv_c (x := (2 : Int32)) (k := 2) (by decide)) (by decide)⟩⟩
      | 2, h => by cases h; exact ⟨_, rfl, ⟨0, rfl, iv_w (iv_c (x := (0 : Int32)) (k := 0) (by decide)) (by decide)⟩⟩
      | 3, h => by cases h; exact ⟨_, rfl, ⟨0, rfl, iv_w (iv_c (x := (0 : Int32)) (k := 0) (by decide)) (by decide)⟩⟩
      | 4, h => by cases h; exact ⟨_, rfl, ⟨0, rfl, iv_w (iv_c (x := (0 : Int32)) (k := 0) (by decide)) (by decide)⟩⟩
      | k + 5, h => absurd (List.getElem?_eq_some_iff.mp h).1 (by show ¬ (k + 5 < 5); omega), trivial⟩
theorem tc_10 {D : va_G} {c0 : Nat → ClassId} {Y : Nat → Option Nat} {H : Heap} {q a3 : Nat} (h : va_at D vwCl (q, .inr (5, [.int 0, .int 0, .int 0, .ref a3])) H) (h3 : Y a3 = some 27) : ti_c D vwCl (tysOf c0) Y (RTg (fun _ => 0) 5) q H :=
  ⟨_, h, rfl, fun k t hk => match k, hk with
      | 0, h => by cases h; exact ⟨_, rfl, ⟨0, rfl, iv_w (iv_c (x := (0 : Int32)) (k := 0) (by decide)) (by decide)⟩⟩
      | 1, h => by cases h; exact ⟨_, rfl, ⟨0, rfl, iv_w (iv_c (x := (0 : Int32)) (k := 0) (by decide)) (by decide)⟩⟩
      | 2, h => by cases h; exact ⟨_, rfl, ⟨0, rfl, iv_w (iv_c (x := (0 : Int32)) (k := 0) (by decide)) (by decide)⟩⟩
      | 3, h => by cases h; exact ⟨_, rfl, ⟨a3, rfl, h3⟩⟩
      | k + 4, h => absurd (List.getElem?_eq_some_iff.mp h).1 (by show ¬ (k + 4 < 4); omega), trivial⟩
theorem tc_11 {D : va_G} {c0 : Nat → ClassId} {Y : Nat → Option Nat} {H : Heap} {q : Nat} (h : va_at D vwCl (q, .inl (c0 3, 60, .inr (.inl (fun _ => 0)))) H)  : ti_c D vwCl (tysOf c0) Y (RTg (fun _ => 0) 27) q H :=
  tc_longs (RT := RTg (fun _ => 0)) (r := 27) (ty := .long) rfl rfl h (fun _ _ => ⟨_, rfl⟩) trivial
theorem tc_12 {D : va_G} {c0 : Nat → ClassId} {Y : Nat → Option Nat} {H : Heap} {q a3 a4 : Nat} (h : va_at D vwCl (q, .inr (4, [.int 0, .int 0, .int 0, .ref a3, .ref a4, .int 0, .int 0, .int 0, .int 0, .int 0, .int 0])) H) (h3 : Y a3 = some 29) (h4 : Y a4 = some 29) : ti_c D vwCl (tysOf c0) Y (RTg (fun _ => 0) 4) q H :=
  ⟨_, h, rfl, fun k t hk => match k, hk with
      | 0, h => by cases h; exact ⟨_, rfl, ⟨0, rfl, iv_w (iv_c (x := (0 : Int32)) (k := 0) (by decide)) (by decide)⟩⟩
      | 1, h => by cases h; exact ⟨_, rfl, ⟨0, rfl, iv_w (iv_c (x := (0 : Int32)) (k := 0) (by decide)) (by decide)⟩⟩
      | 2, h => by cases h; exact ⟨_, rfl, ⟨0, rfl, iv_w (iv_c (x := (0 : Int32)) (k := 0) (by decide)) (by decide)⟩⟩
      | 3, h => by cases h; exact ⟨_, rfl, ⟨a3, rfl, h3⟩⟩
      | 4, h => by cases h; exact ⟨_, rfl, ⟨a4, rfl, h4⟩⟩
      | 5, h => by cases h; exact ⟨_, rfl, ⟨0, rfl, iv_w (iv_c (x := (0 : Int32)) (k := 0) (by decide)) (by decide)⟩⟩
      | 6, h => by cases h; exact ⟨_, rfl, ⟨0, rfl, iv_w (iv_c (x := (0 : Int32)) (k := 0) (by decide)) (by decide)⟩⟩
      | 7, h => by cases h; exact ⟨_, rfl, ⟨0, rfl, iv_w (iv_c (x := (0 : Int32)) (k := 0) (by decide)) (by decide)⟩⟩
      | 8, h => by cases h; exact ⟨_, rfl, ⟨0, rfl, iv_w (iv_c (x := (0 : Int32)) (k := 0) (by decide)) (by decide)⟩⟩
      | 9, h => by cases h; exact ⟨_, rfl, ⟨0, rfl, iv_w (iv_c (x := (0 : Int32)) (k := 0) (by decide)) (by decide)⟩⟩
      | 10, h => by cases h; exact ⟨_, rfl, ⟨0, rfl, iv_w (iv_c (x := (0 : Int32)) (k := 0) (by decide)) (by decide)⟩⟩
      | k + 11, h => absurd (List.getElem?_eq_some_iff.mp h).1 (by show ¬ (k + 11 < 11); omega), trivial⟩
theorem tc_13 {D : va_G} {c0 : Nat → ClassId} {Y : Nat → Option Nat} {H : Heap} {q : Nat} (h : va_at D vwCl (q, .inl (c0 0, 8, .inl (fun _ => 0))) H)  : ti_c D vwCl (tysOf c0) Y (RTg (fun _ => 0) 29) q H :=
  tc_ints (RT := RTg (fun _ => 0)) (r := 29) (ty := .int) rfl rfl h (fun _ _ => ⟨0, rfl, iv_w (iv_c (x := (0 : Int32)) (k := 0) (by decide)) (by decide)⟩) trivial
theorem tc_14 {D : va_G} {c0 : Nat → ClassId} {Y : Nat → Option Nat} {H : Heap} {q a0 a1 : Nat} (h : va_at D vwCl (q, .inr (2, [.ref a0, .ref a1, .int 0, .int 0, .int 0, .int 0, .int 0, .int 0, .int 0])) H) (h0 : Y a0 = some 4) (h1 : Y a1 = some 29) : ti_c D vwCl (tysOf c0) Y (RTg (fun _ => 0) 2) q H :=
  ⟨_, h, rfl, fun k t hk => match k, hk with
      | 0, h => by cases h; exact ⟨_, rfl, ⟨a0, rfl, h0⟩⟩
      | 1, h => by cases h; exact ⟨_, rfl, ⟨a1, rfl, h1⟩⟩
      | 2, h => by cases h; exact ⟨_, rfl, ⟨0, rfl, iv_w (iv_c (x := (0 : Int32)) (k := 0) (by decide)) (by decide)⟩⟩
      | 3, h => by cases h; exact ⟨_, rfl, ⟨0, rfl, iv_w (iv_c (x := (0 : Int32)) (k := 0) (by decide)) (by decide)⟩⟩
      | 4, h => by cases h; exact ⟨_, rfl, ⟨0, rfl, iv_w (iv_c (x := (0 : Int32)) (k := 0) (by decide)) (by decide)⟩⟩
      | 5, h => by cases h; exact ⟨_, rfl, ⟨0, rfl, iv_w (iv_c (x := (0 : Int32)) (k := 0) (by decide)) (by decide)⟩⟩
      | 6, h => by cases h; exact ⟨_, rfl, ⟨0, rfl, iv_w (iv_c (x := (0 : Int32)) (k := 0) (by decide)) (by decide)⟩⟩
      | 7, h => by cases h; exact ⟨_, rfl, ⟨0, rfl, iv_w (iv_c (x := (0 : Int32)) (k := 0) (by decide)) (by decide)⟩⟩
      | 8, h => by cases h; exact ⟨_, rfl, ⟨0, rfl, iv_w (iv_c (x := (0 : Int32)) (k := 0) (by decide)) (by decide)⟩⟩
      | k + 9, h => absurd (List.getElem?_eq_some_iff.mp h).1 (by show ¬ (k + 9 < 9); omega), (fun g t h1 h2 h3 => by
      have h2 : (some (Value.int 0) : Option Value) = some (.int t) := h2
      cases h2
      decide)⟩
theorem tc_15 {D : va_G} {c0 : Nat → ClassId} {Y : Nat → Option Nat} {H : Heap} {q a0 a1 a2 : Nat} (h : va_at D vwCl (q, .inr (8, [.ref a0, .ref a1, .ref a2, .int 0, .int 0])) H) (h0 : Y a0 = some 2) (h1 : Y a1 = some 4) (h2 : Y a2 = some 29) : ti_c D vwCl (tysOf c0) Y (RTg (fun _ => 0) 8) q H :=
  ⟨_, h, rfl, fun k t hk => match k, hk with
      | 0, h => by cases h; exact ⟨_, rfl, ⟨a0, rfl, h0⟩⟩
      | 1, h => by cases h; exact ⟨_, rfl, ⟨a1, rfl, h1⟩⟩
      | 2, h => by cases h; exact ⟨_, rfl, ⟨a2, rfl, h2⟩⟩
      | 3, h => by cases h; exact ⟨_, rfl, ⟨0, rfl, iv_w (iv_c (x := (0 : Int32)) (k := 0) (by decide)) (by decide)⟩⟩
      | 4, h => by cases h; exact ⟨_, rfl, ⟨0, rfl, iv_w (iv_c (x := (0 : Int32)) (k := 0) (by decide)) (by decide)⟩⟩
      | k + 5, h => absurd (List.getElem?_eq_some_iff.mp h).1 (by show ¬ (k + 5 < 5); omega), trivial⟩
theorem tc_16 {D : va_G} {c0 : Nat → ClassId} {Y : Nat → Option Nat} {H : Heap} {q a0 a1 a2 a3 a4 a5 a6 a7 a8 a9 a10 : Nat} (h : va_at D vwCl (q, .inr (9, [.ref a0, .ref a1, .ref a2, .ref a3, .ref a4, .ref a5, .ref a6, .ref a7, .ref a8, .ref a9, .ref a10])) H) (h0 : Y a0 = some 6) (h1 : Y a1 = some 7) (h2 : Y a2 = some 23) (h3 : Y a3 = some 23) (h4 : Y a4 = some 24) (h5 : Y a5 = some 25) (h6 : Y a6 = some 4) (h7 : Y a7 = some 2) (h8 : Y a8 = some 8) (h9 : Y a9 = some 29) (h10 : Y a10 = some 40) : ti_c D vwCl (tysOf c0) Y (RTg (fun _ => 0) 9) q H :=
  ⟨_, h, rfl, fun k t hk => match k, hk with
      | 0, h => by cases h; exact ⟨_, rfl, ⟨a0, rfl, h0⟩⟩
      | 1, h => by cases h; exact ⟨_, rfl, ⟨a1, rfl, h1⟩⟩
      | 2, h => by cases h; exact ⟨_, rfl, ⟨a2, rfl, h2⟩⟩
      | 3, h => by cases h; exact ⟨_, rfl, ⟨a3, rfl, h3⟩⟩
      | 4, h => by cases h; exact ⟨_, rfl, ⟨a4, rfl, h4⟩⟩
      | 5, h => by cases h; exact ⟨_, rfl, ⟨a5, rfl, h5⟩⟩
      | 6, h => by cases h; exact ⟨_, rfl, ⟨a6, rfl, h6⟩⟩
      | 7, h => by cases h; exact ⟨_, rfl, ⟨a7, rfl, h7⟩⟩
      | 8, h => by cases h; exact ⟨_, rfl, ⟨a8, rfl, h8⟩⟩
      | 9, h => by cases h; exact ⟨_, rfl, ⟨a9, rfl, h9⟩⟩
      | 10, h => by cases h; exact ⟨_, rfl, ⟨a10, rfl, h10⟩⟩
      | k + 11, h => absurd (List.getElem?_eq_some_iff.mp h).1 (by show ¬ (k + 11 < 11); omega), trivial⟩
theorem tc_17 {D : va_G} {c0 : Nat → ClassId} {Y : Nat → Option Nat} {H : Heap} {q : Nat} {a0 a1 a2 : Nat} (h : va_at D vwCl (q, .inl (c0 4, 3, .inr (.inr (.inr (.inr (va_up (va_up (va_up (fun _ => none) 0 (some a0)) 1 (some a1)) 2 (some a2))))))) H) (h0 : Y a0 = some 7) (h1 : Y a1 = some 7) (h2 : Y a2 = some 7) : ti_c D vwCl (tysOf c0) Y (RTg (fun _ => 0) 23) q H :=
  tc_refs (RT := RTg (fun _ => 0)) (r := 23) (ty := (.object "SixStroke$Town")) rfl rfl h (fun j hj => match j, hj with
      | 0, _ => ⟨a0, rfl, h0⟩
      | 1, _ => ⟨a1, rfl, h1⟩
      | 2, _ => ⟨a2, rfl, h2⟩
      | k + 3, h => absurd (show k + 3 < 3 from h) (by omega)) trivial
theorem tc_18 {D : va_G} {c0 : Nat → ClassId} {Y : Nat → Option Nat} {H : Heap} {q : Nat} (h : va_at D vwCl (q, .inl (c0 2, 3, .inl (fun _ => 0))) H)  : ti_c D vwCl (tysOf c0) Y (RTg (fun _ => 0) 24) q H :=
  tc_ints (RT := RTg (fun _ => 0)) (r := 24) (ty := .boolean) rfl rfl h (fun _ _ => ⟨0, rfl, iv_w (iv_c (x := (0 : Int32)) (k := 0) (by decide)) (by decide)⟩) trivial
theorem tc_19 {D : va_G} {c0 : Nat → ClassId} {Y : Nat → Option Nat} {H : Heap} {q : Nat} {a0 a1 a2 a3 : Nat} (h : va_at D vwCl (q, .inl (c0 5, 4, .inr (.inr (.inr (.inr (va_up (va_up (va_up (va_up (fun _ => none) 0 (some a0)) 1 (some a1)) 2 (some a2)) 3 (some a3))))))) H) (h0 : Y a0 = some 5) (h1 : Y a1 = some 5) (h2 : Y a2 = some 5) (h3 : Y a3 = some 5) : ti_c D vwCl (tysOf c0) Y (RTg (fun _ => 0) 25) q H :=
  tc_refs (RT := RTg (fun _ => 0)) (r := 25) (ty := (.object "SixStroke$Slot")) rfl rfl h (fun j hj => match j, hj with
      | 0, _ => ⟨a0, rfl, h0⟩
      | 1, _ => ⟨a1, rfl, h1⟩
      | 2, _ => ⟨a2, rfl, h2⟩
      | 3, _ => ⟨a3, rfl, h3⟩
      | k + 4, h => absurd (show k + 4 < 4 from h) (by omega)) trivial
theorem tc_20 {D : va_G} {c0 : Nat → ClassId} {Y : Nat → Option Nat} {H : Heap} {q : Nat} (h : va_at D vwCl (q, .inl (c0 0, 4, .inl (fun _ => 0))) H)  : ti_c D vwCl (tysOf c0) Y (RTg (fun _ => 0) 40) q H :=
  tc_ints (RT := RTg (fun _ => 0)) (r := 40) (ty := .int) rfl rfl h (fun _ _ => ⟨0, rfl, iv_w (iv_c (x := (0 : Int32)) (k := 0) (by decide)) (by decide)⟩) trivial
theorem tc_21 {D : va_G} {c0 : Nat → ClassId} {Y : Nat → Option Nat} {H : Heap} {q a1 a2 a3 a4 a5 a7 a15 a17 a18 a20 a21 a24 a25 a26 a28 a29 a30 a31 a32 a33 a34 a35 a36 a37 : Nat} (h : va_at D vwCl (q, .inr (10, [.int 0, .ref a1, .ref a2, .ref a3, .ref a4, .ref a5, .int 0, .ref a7, .int 0, .int 0, .int 0, .int 0, .int 0, .int 0, .int (-1), .ref a15, .long 0, .ref a17, .ref a18, .int 0, .ref a20, .ref a21, .int 0, .int 0, .ref a24, .ref a25, .ref a26, .int 0, .ref a28, .ref a29, .ref a30, .ref a31, .ref a32, .ref a33, .ref a34, .ref a35, .ref a36, .ref a37])) H) (h1 : Y a1 = some 30) (h2 : Y a2 = some 31) (h3 : Y a3 = some 32) (h4 : Y a4 = some 33) (h5 : Y a5 = some 34) (h7 : Y a7 = some 35) (h15 : Y a15 = some 36) (h17 : Y a17 = some 41) (h18 : Y a18 = some 42) (h20 : Y a20 = some 29) (h21 : Y a21 = some 29) (h24 : Y a24 = some 43) (h25 : Y a25 = some 29) (h26 : Y a26 = some 29) (h28 : Y a28 = some 46) (h29 : Y a29 = some 29) (h30 : Y a30 = some 29) (h31 : Y a31 = some 44) (h32 : Y a32 = some 40) (h33 : Y a33 = some 40) (h34 : Y a34 = some 37) (h35 : Y a35 = some 38) (h36 : Y a36 = some 39) (h37 : Y a37 = some 27) : ti_c D vwCl (tysOf c0) Y (RTg (fun _ => 0) 10) q H :=
  ⟨_, h, rfl, fun k t hk => match k, hk with
      | 0, h => by cases h; exact ⟨_, rfl, ⟨0, rfl, iv_w (iv_c (x := (0 : Int32)) (k := 0) (by decide)) (by decide)⟩⟩
      | 1, h => by cases h; exact ⟨_, rfl, ⟨a1, rfl, h1⟩⟩
      | 2, h => by cases h; exact ⟨_, rfl, ⟨a2, rfl, h2⟩⟩
      | 3, h => by cases h; exact ⟨_, rfl, ⟨a3, rfl, h3⟩⟩
      | 4, h => by cases h; exact ⟨_, rfl, ⟨a4, rfl, h4⟩⟩
      | 5, h => by cases h; exact ⟨_, rfl, ⟨a5, rfl, h5⟩⟩
      | 6, h => by cases h; exact ⟨_, rfl, ⟨0, rfl, iv_w (iv_c (x := (0 : Int32)) (k := 0) (by decide)) (by decide)⟩⟩
      | 7, h => by cases h; exact ⟨_, rfl, ⟨a7, rfl, h7⟩⟩
      | 8, h => by cases h; exact ⟨_, rfl, ⟨0, rfl, iv_w (iv_c (x := (0 : Int32)) (k := 0) (by decide)) (by decide)⟩⟩
      | 9, h => by cases h; exact ⟨_, rfl, ⟨0, rfl, iv_w (iv_c (x := (0 : Int32)) (k := 0) (by decide)) (by decide)⟩⟩
      | 10, h => by cases h; exact ⟨_, rfl, ⟨0, rfl, iv_w (iv_c (x := (0 : Int32)) (k := 0) (by decide)) (by decide)⟩⟩
      | 11, h => by cases h; exact ⟨_, rfl, ⟨0, rfl, iv_w (iv_c (x := (0 : Int32)) (k := 0) (by decide)) (by decide)⟩⟩
      | 12, h => by cases h; exact ⟨_, rfl, ⟨0, rfl, iv_w (iv_c (x := (0 : Int32)) (k := 0) (by decide)) (by decide)⟩⟩
      | 13, h => by cases h; exact ⟨_, rfl, ⟨0, rfl, iv_w (iv_c (x := (0 : Int32)) (k := 0) (by decide)) (by decide)⟩⟩
      | 14, h => by cases h; exact ⟨_, rfl, ⟨(-1), rfl, iv_w (iv_c (x := ((-1) : Int32)) (k := (-1)) (by decide)) (by decide)⟩⟩
      | 15, h => by cases h; exact ⟨_, rfl, ⟨a15, rfl, h15⟩⟩
      | 16, h => by cases h; exact ⟨_, rfl, ⟨_, rfl⟩⟩
      | 17, h => by cases h; exact ⟨_, rfl, ⟨a17, rfl, h17⟩⟩
      | 18, h => by cases h; exact ⟨_, rfl, ⟨a18, rfl, h18⟩⟩
      | 19, h => by cases h; exact ⟨_, rfl, ⟨0, rfl, iv_w (iv_c (x := (0 : Int32)) (k := 0) (by decide)) (by decide)⟩⟩
      | 20, h => by cases h; exact ⟨_, rfl, ⟨a20, rfl, h20⟩⟩
      | 21, h => by cases h; exact ⟨_, rfl, ⟨a21, rfl, h21⟩⟩
      | 22, h => by cases h; exact ⟨_, rfl, ⟨0, rfl, iv_w (iv_c (x := (0 : Int32)) (k := 0) (by decide)) (by decide)⟩⟩
      | 23, h => by cases h; exact ⟨_, rfl, ⟨0, rfl, iv_w (iv_c (x := (0 : Int32)) (k := 0) (by decide)) (by decide)⟩⟩
      | 24, h => by cases h; exact ⟨_, rfl, ⟨a24, rfl, h24⟩⟩
      | 25, h => by cases h; exact ⟨_, rfl, ⟨a25, rfl, h25⟩⟩
      | 26, h => by cases h; exact ⟨_, rfl, ⟨a26, rfl, h26⟩⟩
      | 27, h => by cases h; exact ⟨_, rfl, ⟨0, rfl, iv_w (iv_c (x := (0 : Int32)) (k := 0) (by decide)) (by decide)⟩⟩
      | 28, h => by cases h; exact ⟨_, rfl, ⟨a28, rfl, h28⟩⟩
      | 29, h => by cases h; exact ⟨_, rfl, ⟨a29, rfl, h29⟩⟩
      | 30, h => by cases h; exact ⟨_, rfl, ⟨a30, rfl, h30⟩⟩
      | 31, h => by cases h; exact ⟨_, rfl, ⟨a31, rfl, h31⟩⟩
      | 32, h => by cases h; exact ⟨_, rfl, ⟨a32, rfl, h32⟩⟩
      | 33, h => by cases h; exact ⟨_, rfl, ⟨a33, rfl, h33⟩⟩
      | 34, h => by cases h; exact ⟨_, rfl, ⟨a34, rfl, h34⟩⟩
      | 35, h => by cases h; exact ⟨_, rfl, ⟨a35, rfl, h35⟩⟩
      | 36, h => by cases h; exact ⟨_, rfl, ⟨a36, rfl, h36⟩⟩
      | 37, h => by cases h; exact ⟨_, rfl, ⟨a37, rfl, h37⟩⟩
      | k + 38, h => absurd (List.getElem?_eq_some_iff.mp h).1 (by show ¬ (k + 38 < 38); omega), trivial⟩
theorem tc_22 {D : va_G} {c0 : Nat → ClassId} {Y : Nat → Option Nat} {H : Heap} {q : Nat} (h : va_at D vwCl (q, .inl (c0 0, 534, .inl (fun _ => 0))) H)  : ti_c D vwCl (tysOf c0) Y (RTg (fun _ => 0) 31) q H :=
  tc_ints (RT := RTg (fun _ => 0)) (r := 31) (ty := .int) rfl rfl h (fun j hj => by
      show gm Y (if j % 178 < 0 then _ else _) _
      rw [if_neg (Nat.not_lt_zero _)]
      exact ⟨0, rfl, iv_top _⟩) trivial
theorem tc_23 {D : va_G} {c0 : Nat → ClassId} {Y : Nat → Option Nat} {H : Heap} {q : Nat} (h : va_at D vwCl (q, .inl (c0 3, 3, .inr (.inl (fun _ => 0)))) H)  : ti_c D vwCl (tysOf c0) Y (RTg (fun _ => 0) 32) q H :=
  tc_longs (RT := RTg (fun _ => 0)) (r := 32) (ty := .long) rfl rfl h (fun _ _ => ⟨_, rfl⟩) trivial
theorem tc_24 {D : va_G} {c0 : Nat → ClassId} {Y : Nat → Option Nat} {H : Heap} {q : Nat} (h : va_at D vwCl (q, .inl (c0 2, 3, .inl (fun _ => 0))) H)  : ti_c D vwCl (tysOf c0) Y (RTg (fun _ => 0) 33) q H :=
  tc_ints (RT := RTg (fun _ => 0)) (r := 33) (ty := .boolean) rfl rfl h (fun j hj => by
      show gm Y (if (0 : Nat) = 178 then _ else _) _
      rw [if_neg (by decide)]
      exact ⟨0, rfl, iv_w (iv_c (x := (0 : Int32)) (k := 0) (by decide)) (by decide)⟩) trivial
theorem tc_25 {D : va_G} {c0 : Nat → ClassId} {Y : Nat → Option Nat} {H : Heap} {q : Nat} (h : va_at D vwCl (q, .inl (c0 1, 1600, .inl (fun _ => 0))) H)  : ti_c D vwCl (tysOf c0) Y (RTg (fun _ => 0) 34) q H :=
  tc_ints (RT := RTg (fun _ => 0)) (r := 34) (ty := .byte) rfl rfl h (fun _ _ => ⟨0, rfl, iv_w (iv_c (x := (0 : Int32)) (k := 0) (by decide)) (by decide)⟩) trivial
theorem tc_26 {D : va_G} {c0 : Nat → ClassId} {Y : Nat → Option Nat} {H : Heap} {q : Nat} (h : va_at D vwCl (q, .inl (c0 0, 5, .inl (fun _ => 0))) H)  : ti_c D vwCl (tysOf c0) Y (RTg (fun _ => 0) 35) q H :=
  tc_ints (RT := RTg (fun _ => 0)) (r := 35) (ty := .int) rfl rfl h (fun _ _ => ⟨0, rfl, iv_w (iv_c (x := (0 : Int32)) (k := 0) (by decide)) (by decide)⟩) trivial
theorem tc_27 {D : va_G} {c0 : Nat → ClassId} {Y : Nat → Option Nat} {H : Heap} {q : Nat} (h : va_at D vwCl (q, .inl (c0 0, 178, .inl (fun _ => 0))) H)  : ti_c D vwCl (tysOf c0) Y (RTg (fun _ => 0) 36) q H :=
  tc_ints (RT := RTg (fun _ => 0)) (r := 36) (ty := .int) rfl rfl h (fun j _ => fr_z0 j) trivial
theorem tc_28 {D : va_G} {c0 : Nat → ClassId} {Y : Nat → Option Nat} {H : Heap} {q : Nat} (h : va_at D vwCl (q, .inl (c0 0, 712, .inl (fun _ => 0))) H)  : ti_c D vwCl (tysOf c0) Y (RTg (fun _ => 0) 41) q H :=
  tc_ints (RT := RTg (fun _ => 0)) (r := 41) (ty := .int) rfl rfl h (fun j hj => by
      show gm Y (if j < 0 then _ else _) _
      rw [if_neg (Nat.not_lt_zero _)]
      exact ⟨0, rfl, iv_top _⟩) trivial
theorem tc_29 {D : va_G} {c0 : Nat → ClassId} {Y : Nat → Option Nat} {H : Heap} {q : Nat} (h : va_at D vwCl (q, .inl (c0 3, 4, .inr (.inl (fun _ => 0)))) H)  : ti_c D vwCl (tysOf c0) Y (RTg (fun _ => 0) 42) q H :=
  tc_longs (RT := RTg (fun _ => 0)) (r := 42) (ty := .long) rfl rfl h (fun _ _ => ⟨_, rfl⟩) trivial
theorem tc_30 {D : va_G} {c0 : Nat → ClassId} {Y : Nat → Option Nat} {H : Heap} {q : Nat} (h : va_at D vwCl (q, .inl (c0 0, 5, .inl (fun _ => 0))) H)  : ti_c D vwCl (tysOf c0) Y (RTg (fun _ => 0) 43) q H :=
  tc_ints (RT := RTg (fun _ => 0)) (r := 43) (ty := .int) rfl rfl h (fun j _ => at4_z0 j) (fun x y h1 h2 h3 => by
      have h2 : Value.int 0 = .int y := h2
      cases h2
      decide)
theorem tc_31 {D : va_G} {c0 : Nat → ClassId} {Y : Nat → Option Nat} {H : Heap} {q : Nat} (h : va_at D vwCl (q, .inl (c0 0, 5, .inl (fun _ => 0))) H)  : ti_c D vwCl (tysOf c0) Y (RTg (fun _ => 0) 46) q H :=
  tc_ints (RT := RTg (fun _ => 0)) (r := 46) (ty := .int) rfl rfl h (fun j _ => at4_z0 j) trivial
theorem tc_32 {D : va_G} {c0 : Nat → ClassId} {Y : Nat → Option Nat} {H : Heap} {q : Nat} (h : va_at D vwCl (q, .inl (c0 0, 30, .inl (fun _ => 0))) H)  : ti_c D vwCl (tysOf c0) Y (RTg (fun _ => 0) 44) q H :=
  tc_ints (RT := RTg (fun _ => 0)) (r := 44) (ty := .int) rfl rfl h (fun _ _ => ⟨0, rfl, iv_w (iv_c (x := (0 : Int32)) (k := 0) (by decide)) (by decide)⟩) trivial
theorem tc_33 {D : va_G} {c0 : Nat → ClassId} {Y : Nat → Option Nat} {H : Heap} {q : Nat} (h : va_at D vwCl (q, .inl (c0 0, 4, .inl (upd (upd (upd (upd (fun _ => 0) 0 (-1)) 1 (-1)) 2 (-1)) 3 (-1)))) H)  : ti_c D vwCl (tysOf c0) Y (RTg (fun _ => 0) 37) q H :=
  tc_ints (RT := RTg (fun _ => 0)) (r := 37) (ty := .int) rfl rfl h (fun j hj => match j, hj with
      | 0, _ => ⟨(-1), rfl, iv_w (iv_c (x := ((-1) : Int32)) (k := (-1)) (by decide)) (by decide)⟩
      | 1, _ => ⟨(-1), rfl, iv_w (iv_c (x := ((-1) : Int32)) (k := (-1)) (by decide)) (by decide)⟩
      | 2, _ => ⟨(-1), rfl, iv_w (iv_c (x := ((-1) : Int32)) (k := (-1)) (by decide)) (by decide)⟩
      | 3, _ => ⟨(-1), rfl, iv_w (iv_c (x := ((-1) : Int32)) (k := (-1)) (by decide)) (by decide)⟩
      | k + 4, h => absurd (show k + 4 < 4 from h) (by omega)) trivial
theorem tc_34 {D : va_G} {c0 : Nat → ClassId} {Y : Nat → Option Nat} {H : Heap} {q : Nat} (h : va_at D vwCl (q, .inl (c0 0, 4, .inl (fun _ => 0))) H)  : ti_c D vwCl (tysOf c0) Y (RTg (fun _ => 0) 38) q H :=
  tc_ints (RT := RTg (fun _ => 0)) (r := 38) (ty := .int) rfl rfl h (fun _ _ => ⟨0, rfl, iv_w (iv_c (x := (0 : Int32)) (k := 0) (by decide)) (by decide)⟩) trivial
theorem tc_35 {D : va_G} {c0 : Nat → ClassId} {Y : Nat → Option Nat} {H : Heap} {q : Nat} (h : va_at D vwCl (q, .inl (c0 3, 240, .inr (.inl (fun _ => 0)))) H)  : ti_c D vwCl (tysOf c0) Y (RTg (fun _ => 0) 39) q H :=
  tc_longs (RT := RTg (fun _ => 0)) (r := 39) (ty := .long) rfl rfl h (fun _ _ => ⟨_, rfl⟩) trivial
theorem tc_36 {D : va_G} {c0 : Nat → ClassId} {Y : Nat → Option Nat} {H : Heap} {q : Nat} {g : Nat → Int32} (h : va_at D vwCl (q, .inl (c0 0, 178, .inl g)) H) (hE : ∀ j : Nat, j < 178 → g j = if j = 3 then 2 else if 96 ≤ j ∧ j < 160 then 1 else 0) : ti_c D vwCl (tysOf c0) Y (RTg (fun _ => 0) 30) q H :=
  tc_ints (RT := RTg (fun _ => 0)) (r := 30) (ty := .int) rfl rfl h (fun j hj => wfg_e hE j hj) trivial
def ro_tape : List Nat := [6, 26, 20, 20, 28, 21, 3, 3, 3, 3, 3, 3, 3, 3, 7, 1, 22, 0]
set_option maxHeartbeats 8000000 in
set_option maxRecDepth 100000 in
theorem ty_tape {D : va_G} {c0 : Nat → ClassId} {H : Heap} {A : Nat → Prop} {ws : va_W} {h0 : Nat} {q8_0 : Nat} {q14_1 : Nat} {q5_0_18_2 : Nat} {q16_1_18_3 : Nat} {q7_0_20_2_18_4 : Nat} {q15_1_20_3_18_5 : Nat} {q23_2_20_4_18_6 : Nat} {q29_5_18_7 : Nat} {q38_6_18_8 : Nat} {q56_7_18_9 : Nat} {q56_8_18_10 : Nat} {q56_9_18_11 : Nat} {q56_10_18_12 : Nat} {q56_11_18_13 : Nat} {q56_12_18_14 : Nat} {q56_13_18_15 : Nat} {q56_14_18_16 : Nat} {g_71_15_18_17 : Nat → Int32} (hws : ws = [(h0, .inr (6, [.ref q8_0, .int 0, .ref q14_1, .int 0, .int 0, .int 0, .int 0, .int 0, .int 0, .int 0, .int 0, .int (-1)])), (q8_0, .inl (c0 1, 1600, .inl (fun _ => 0))), (q7_0_20_2_18_4, .inl (c0 0, 6, .inl (fun _ => 0))), (q15_1_20_3_18_5, .inl (c0 0, 6, .inl (fun _ => 0))), (q23_2_20_4_18_6, .inl (c0 0, 6, .inl (fun _ => 0))), (q29_5_18_7, .inl (c0 6, 8, .inr (.inr (.inr (.inr (va_up (va_up (va_up (va_up (va_up (va_up (va_up (va_up (fun _ => none) 0 (some q56_7_18_9)) 1 (some q56_8_18_10)) 2 (some q56_9_18_11)) 3 (some q56_10_18_12)) 4 (some q56_11_18_13)) 5 (some q56_12_18_14)) 6 (some q56_13_18_15)) 7 (some q56_14_18_16))))))), (q56_7_18_9, .inr (3, [.int 0, .int 0, .int 0, .int 0, .int 0, .int 0, .int 0, .int 0, .int 0, .int 0])), (q56_8_18_10, .inr (3, [.int 0, .int 0, .int 0, .int 0, .int 0, .int 0, .int 0, .int 0, .int 0, .int 0])), (q56_9_18_11, .inr (3, [.int 0, .int 0, .int 0, .int 0, .int 0, .int 0, .int 0, .int 0, .int 0, .int 0])), (q56_10_18_12, .inr (3, [.int 0, .int 0, .int 0, .int 0, .int 0, .int 0, .int 0, .int 0, .int 0, .int 0])), (q56_11_18_13, .inr (3, [.int 0, .int 0, .int 0, .int 0, .int 0, .int 0, .int 0, .int 0, .int 0, .int 0])), (q56_12_18_14, .inr (3, [.int 0, .int 0, .int 0, .int 0, .int 0, .int 0, .int 0, .int 0, .int 0, .int 0])), (q56_13_18_15, .inr (3, [.int 0, .int 0, .int 0, .int 0, .int 0, .int 0, .int 0, .int 0, .int 0, .int 0])), (q56_14_18_16, .inr (3, [.int 0, .int 0, .int 0, .int 0, .int 0, .int 0, .int 0, .int 0, .int 0, .int 0])), (q14_1, .inr (7, [.int 0, .int 0, .int 0, .int 0, .int 0, .long 0, .ref q5_0_18_2, .ref q16_1_18_3, .ref q29_5_18_7, .ref q38_6_18_8])), (q16_1_18_3, .inr (1, [.int 0, .ref q7_0_20_2_18_4, .ref q15_1_20_3_18_5, .ref q23_2_20_4_18_6])), (q38_6_18_8, .inl (c0 0, 64, .inl g_71_15_18_17)), (q5_0_18_2, .inr (0, [.int 0, .int 2, .int 0, .int 0, .int 0]))]) (hP : va_P D vwCl ws H) (hD : va_D A ws) : TI D vwCl (tysOf c0) (RTg (fun _ => 0)) (yl ws ro_tape) H ∧ yl ws ro_tape h0 = some 6 ∧ ∀ q, pA (yl ws ro_tape) q → A q := by
  have e0 : ws[0]? = some (h0, .inr (6, [.ref q8_0, .int 0, .ref q14_1, .int 0, .int 0, .int 0, .int 0, .int 0, .int 0, .int 0, .int 0, .int (-1)])) := by rw [hws]; rfl
  have y0 : yl ws ro_tape h0 = some 6 := yl_get hD 0 e0 rfl
  have e1 : ws[1]? = some (q8_0, .inl (c0 1, 1600, .inl (fun _ => 0))) := by rw [hws]; rfl
  have y1 : yl ws ro_tape q8_0 = some 26 := yl_get hD 1 e1 rfl
  have e2 : ws[2]? = some (q7_0_20_2_18_4, .inl (c0 0, 6, .inl (fun _ => 0))) := by rw [hws]; rfl
  have y2 : yl ws ro_tape q7_0_20_2_18_4 = some 20 := yl_get hD 2 e2 rfl
  have e3 : ws[3]? = some (q15_1_20_3_18_5, .inl (c0 0, 6, .inl (fun _ => 0))) := by rw [hws]; rfl
  have y3 : yl ws ro_tape q15_1_20_3_18_5 = some 20 := yl_get hD 3 e3 rfl
  have e4 : ws[4]? = some (q23_2_20_4_18_6, .inl (c0 0, 6, .inl (fun _ => 0))) := by rw [hws]; rfl
  have y4 : yl ws ro_tape q23_2_20_4_18_6 = some 28 := yl_get hD 4 e4 rfl
  have e5 : ws[5]? = some (q29_5_18_7, .inl (c0 6, 8, .inr (.inr (.inr (.inr (va_up (va_up (va_up (va_up (va_up (va_up (va_up (va_up (fun _ => none) 0 (some q56_7_18_9)) 1 (some q56_8_18_10)) 2 (some q56_9_18_11)) 3 (some q56_10_18_12)) 4 (some q56_11_18_13)) 5 (some q56_12_18_14)) 6 (some q56_13_18_15)) 7 (some q56_14_18_16))))))) := by rw [hws]; rfl
  have y5 : yl ws ro_tape q29_5_18_7 = some 21 := yl_get hD 5 e5 rfl
  have e6 : ws[6]? = some (q56_7_18_9, .inr (3, [.int 0, .int 0, .int 0, .int 0, .int 0, .int 0, .int 0, .int 0, .int 0, .int 0])) := by rw [hws]; rfl
  have y6 : yl ws ro_tape q56_7_18_9 = some 3 := yl_get hD 6 e6 rfl
  have e7 : ws[7]? = some (q56_8_18_10, .inr (3, [.int 0, .int 0, .int 0, .int 0, .int 0, .int 0, .int 0, .int 0, .int 0, .int 0])) := by rw [hws]; rfl
  have y7 : yl ws ro_tape q56_8_18_10 = some 3 := yl_get hD 7 e7 rfl
  have e8 : ws[8]? = some (q56_9_18_11, .inr (3, [.int 0, .int 0, .int 0, .int 0, .int 0, .int 0, .int 0, .int 0, .int 0, .int 0])) := by rw [hws]; rfl
  have y8 : yl ws ro_tape q56_9_18_11 = some 3 := yl_get hD 8 e8 rfl
  have e9 : ws[9]? = some (q56_10_18_12, .inr (3, [.int 0, .int 0, .int 0, .int 0, .int 0, .int 0, .int 0, .int 0, .int 0, .int 0])) := by rw [hws]; rfl
  have y9 : yl ws ro_tape q56_10_18_12 = some 3 := yl_get hD 9 e9 rfl
  have e10 : ws[10]? = some (q56_11_18_13, .inr (3, [.int 0, .int 0, .int 0, .int 0, .int 0, .int 0, .int 0, .int 0, .int 0, .int 0])) := by rw [hws]; rfl
  have y10 : yl ws ro_tape q56_11_18_13 = some 3 := yl_get hD 10 e10 rfl
  have e11 : ws[11]? = some (q56_12_18_14, .inr (3, [.int 0, .int 0, .int 0, .int 0, .int 0, .int 0, .int 0, .int 0, .int 0, .int 0])) := by rw [hws]; rfl
  have y11 : yl ws ro_tape q56_12_18_14 = some 3 := yl_get hD 11 e11 rfl
  have e12 : ws[12]? = some (q56_13_18_15, .inr (3, [.int 0, .int 0, .int 0, .int 0, .int 0, .int 0, .int 0, .int 0, .int 0, .int 0])) := by rw [hws]; rfl
  have y12 : yl ws ro_tape q56_13_18_15 = some 3 := yl_get hD 12 e12 rfl
  have e13 : ws[13]? = some (q56_14_18_16, .inr (3, [.int 0, .int 0, .int 0, .int 0, .int 0, .int 0, .int 0, .int 0, .int 0, .int 0])) := by rw [hws]; rfl
  have y13 : yl ws ro_tape q56_14_18_16 = some 3 := yl_get hD 13 e13 rfl
  have e14 : ws[14]? = some (q14_1, .inr (7, [.int 0, .int 0, .int 0, .int 0, .int 0, .long 0, .ref q5_0_18_2, .ref q16_1_18_3, .ref q29_5_18_7, .ref q38_6_18_8])) := by rw [hws]; rfl
  have y14 : yl ws ro_tape q14_1 = some 7 := yl_get hD 14 e14 rfl
  have e15 : ws[15]? = some (q16_1_18_3, .inr (1, [.int 0, .ref q7_0_20_2_18_4, .ref q15_1_20_3_18_5, .ref q23_2_20_4_18_6])) := by rw [hws]; rfl
  have y15 : yl ws ro_tape q16_1_18_3 = some 1 := yl_get hD 15 e15 rfl
  have e16 : ws[16]? = some (q38_6_18_8, .inl (c0 0, 64, .inl g_71_15_18_17)) := by rw [hws]; rfl
  have y16 : yl ws ro_tape q38_6_18_8 = some 22 := yl_get hD 16 e16 rfl
  have e17 : ws[17]? = some (q5_0_18_2, .inr (0, [.int 0, .int 2, .int 0, .int 0, .int 0])) := by rw [hws]; rfl
  have y17 : yl ws ro_tape q5_0_18_2 = some 0 := yl_get hD 17 e17 rfl
  refine ⟨yl_TI (yl_all (P := fun q r => ti_c D vwCl (tysOf c0) (yl ws ro_tape) (RTg (fun _ => 0) r) q H) _ _ ?_), y0, fun q h => ?_⟩
  · rw [show ws.zip ro_tape = [((h0, .inr (6, [.ref q8_0, .int 0, .ref q14_1, .int 0, .int 0, .int 0, .int 0, .int 0, .int 0, .int 0, .int 0, .int (-1)])), 6), ((q8_0, .inl (c0 1, 1600, .inl (fun _ => 0))), 26), ((q7_0_20_2_18_4, .inl (c0 0, 6, .inl (fun _ => 0))), 20), ((q15_1_20_3_18_5, .inl (c0 0, 6, .inl (fun _ => 0))), 20), ((q23_2_20_4_18_6, .inl (c0 0, 6, .inl (fun _ => 0))), 28), ((q29_5_18_7, .inl (c0 6, 8, .inr (.inr (.inr (.inr (va_up (va_up (va_up (va_up (va_up (va_up (va_up (va_up (fun _ => none) 0 (some q56_7_18_9)) 1 (some q56_8_18_10)) 2 (some q56_9_18_11)) 3 (some q56_10_18_12)) 4 (some q56_11_18_13)) 5 (some q56_12_18_14)) 6 (some q56_13_18_15)) 7 (some q56_14_18_16))))))), 21), ((q56_7_18_9, .inr (3, [.int 0, .int 0, .int 0, .int 0, .int 0, .int 0, .int 0, .int 0, .int 0, .int 0])), 3), ((q56_8_18_10, .inr (3, [.int 0, .int 0, .int 0, .int 0, .int 0, .int 0, .int 0, .int 0, .int 0, .int 0])), 3), ((q56_9_18_11, .inr (3, [.int 0, .int 0, .int 0, .int 0, .int 0, .int 0, .int 0, .int 0, .int 0, .int 0])), 3), ((q56_10_18_12, .inr (3, [.int 0, .int 0, .int 0, .int 0, .int 0, .int 0, .int 0, .int 0, .int 0, .int 0])), 3), ((q56_11_18_13, .inr (3, [.int 0, .int 0, .int 0, .int 0, .int 0, .int 0, .int 0, .int 0, .int 0, .int 0])), 3), ((q56_12_18_14, .inr (3, [.int 0, .int 0, .int 0, .int 0, .int 0, .int 0, .int 0, .int 0, .int 0, .int 0])), 3), ((q56_13_18_15, .inr (3, [.int 0, .int 0, .int 0, .int 0, .int 0, .int 0, .int 0, .int 0, .int 0, .int 0])), 3), ((q56_14_18_16, .inr (3, [.int 0, .int 0, .int 0, .int 0, .int 0, .int 0, .int 0, .int 0, .int 0, .int 0])), 3), ((q14_1, .inr (7, [.int 0, .int 0, .int 0, .int 0, .int 0, .long 0, .ref q5_0_18_2, .ref q16_1_18_3, .ref q29_5_18_7, .ref q38_6_18_8])), 7), ((q16_1_18_3, .inr (1, [.int 0, .ref q7_0_20_2_18_4, .ref q15_1_20_3_18_5, .ref q23_2_20_4_18_6])), 1), ((q38_6_18_8, .inl (c0 0, 64, .inl g_71_15_18_17)), 22), ((q5_0_18_2, .inr (0, [.int 0, .int 2, .int 0, .int 0, .int 0])), 0)] by rw [hws]; rfl]
    refine List.forall_mem_cons.mpr ⟨tc_0 (hP 0 _ e0) y1 y14, ?_⟩
    refine List.forall_mem_cons.mpr ⟨tc_1 (hP 1 _ e1) , ?_⟩
    refine List.forall_mem_cons.mpr ⟨tc_2 (hP 2 _ e2) , ?_⟩
    refine List.forall_mem_cons.mpr ⟨tc_2 (hP 3 _ e3) , ?_⟩
    refine List.forall_mem_cons.mpr ⟨tc_3 (hP 4 _ e4) , ?_⟩
    refine List.forall_mem_cons.mpr ⟨tc_4 (hP 5 _ e5) y6 y7 y8 y9 y10 y11 y12 y13, ?_⟩
    refine List.forall_mem_cons.mpr ⟨tc_5 (hP 6 _ e6) , ?_⟩
    refine List.forall_mem_cons.mpr ⟨tc_5 (hP 7 _ e7) , ?_⟩
    refine List.forall_mem_cons.mpr ⟨tc_5 (hP 8 _ e8) , ?_⟩
    refine List.forall_mem_cons.mpr ⟨tc_5 (hP 9 _ e9) , ?_⟩
    refine List.forall_mem_cons.mpr ⟨tc_5 (hP 10 _ e10) , ?_⟩
    refine List.forall_mem_cons.mpr ⟨tc_5 (hP 11 _ e11) , ?_⟩
    refine List.forall_mem_cons.mpr ⟨tc_5 (hP 12 _ e12) , ?_⟩
    refine List.forall_mem_cons.mpr ⟨tc_5 (hP 13 _ e13) , ?_⟩
    refine List.forall_mem_cons.mpr ⟨tc_6 (hP 14 _ e14) y17 y15 y5 y16, ?_⟩
    refine List.forall_mem_cons.mpr ⟨tc_7 (hP 15 _ e15) y2 y3 y4, ?_⟩
    refine List.forall_mem_cons.mpr ⟨tc_8 (hP 16 _ e16) , ?_⟩
    refine List.forall_mem_cons.mpr ⟨tc_9 (hP 17 _ e17) , ?_⟩
    exact fun _ h => absurd h List.not_mem_nil
  · obtain ⟨r, hr⟩ := h
    obtain ⟨k, e, h1, -⟩ := yl_inv hr
    exact hD.2 k _ h1
def ro_town : List Nat := [20, 20, 28, 21, 3, 3, 3, 3, 3, 3, 3, 3, 7, 1, 22, 0]
set_option maxHeartbeats 8000000 in
set_option maxRecDepth 100000 in
theorem ty_town {D : va_G} {c0 : Nat → ClassId} {H : Heap} {A : Nat → Prop} {ws : va_W} {h0 : Nat} {q5_0 : Nat} {q16_1 : Nat} {q7_0_20_2 : Nat} {q15_1_20_3 : Nat} {q23_2_20_4 : Nat} {q29_5 : Nat} {q38_6 : Nat} {q56_7 : Nat} {q56_8 : Nat} {q56_9 : Nat} {q56_10 : Nat} {q56_11 : Nat} {q56_12 : Nat} {q56_13 : Nat} {q56_14 : Nat} {g_71_15 : Nat → Int32} (hws : ws = [(q7_0_20_2, .inl (c0 0, 6, .inl (fun _ => 0))), (q15_1_20_3, .inl (c0 0, 6, .inl (fun _ => 0))), (q23_2_20_4, .inl (c0 0, 6, .inl (fun _ => 0))), (q29_5, .inl (c0 6, 8, .inr (.inr (.inr (.inr (va_up (va_up (va_up (va_up (va_up (va_up (va_up (va_up (fun _ => none) 0 (some q56_7)) 1 (some q56_8)) 2 (some q56_9)) 3 (some q56_10)) 4 (some q56_11)) 5 (some q56_12)) 6 (some q56_13)) 7 (some q56_14))))))), (q56_7, .inr (3, [.int 0, .int 0, .int 0, .int 0, .int 0, .int 0, .int 0, .int 0, .int 0, .int 0])), (q56_8, .inr (3, [.int 0, .int 0, .int 0, .int 0, .int 0, .int 0, .int 0, .int 0, .int 0, .int 0])), (q56_9, .inr (3, [.int 0, .int 0, .int 0, .int 0, .int 0, .int 0, .int 0, .int 0, .int 0, .int 0])), (q56_10, .inr (3, [.int 0, .int 0, .int 0, .int 0, .int 0, .int 0, .int 0, .int 0, .int 0, .int 0])), (q56_11, .inr (3, [.int 0, .int 0, .int 0, .int 0, .int 0, .int 0, .int 0, .int 0, .int 0, .int 0])), (q56_12, .inr (3, [.int 0, .int 0, .int 0, .int 0, .int 0, .int 0, .int 0, .int 0, .int 0, .int 0])), (q56_13, .inr (3, [.int 0, .int 0, .int 0, .int 0, .int 0, .int 0, .int 0, .int 0, .int 0, .int 0])), (q56_14, .inr (3, [.int 0, .int 0, .int 0, .int 0, .int 0, .int 0, .int 0, .int 0, .int 0, .int 0])), (h0, .inr (7, [.int 0, .int 0, .int 0, .int 0, .int 0, .long 0, .ref q5_0, .ref q16_1, .ref q29_5, .ref q38_6])), (q16_1, .inr (1, [.int 0, .ref q7_0_20_2, .ref q15_1_20_3, .ref q23_2_20_4])), (q38_6, .inl (c0 0, 64, .inl g_71_15)), (q5_0, .inr (0, [.int 0, .int 2, .int 0, .int 0, .int 0]))]) (hP : va_P D vwCl ws H) (hD : va_D A ws) : TI D vwCl (tysOf c0) (RTg (fun _ => 0)) (yl ws ro_town) H ∧ yl ws ro_town h0 = some 7 ∧ ∀ q, pA (yl ws ro_town) q → A q := by
  have e0 : ws[0]? = some (q7_0_20_2, .inl (c0 0, 6, .inl (fun _ => 0))) := by rw [hws]; rfl
  have y0 : yl ws ro_town q7_0_20_2 = some 20 := yl_get hD 0 e0 rfl
  have e1 : ws[1]? = some (q15_1_20_3, .inl (c0 0, 6, .inl (fun _ => 0))) := by rw [hws]; rfl
  have y1 : yl ws ro_town q15_1_20_3 = some 20 := yl_get hD 1 e1 rfl
  have e2 : ws[2]? = some (q23_2_20_4, .inl (c0 0, 6, .inl (fun _ => 0))) := by rw [hws]; rfl
  have y2 : yl ws ro_town q23_2_20_4 = some 28 := yl_get hD 2 e2 rfl
  have e3 : ws[3]? = some (q29_5, .inl (c0 6, 8, .inr (.inr (.inr (.inr (va_up (va_up (va_up (va_up (va_up (va_up (va_up (va_up (fun _ => none) 0 (some q56_7)) 1 (some q56_8)) 2 (some q56_9)) 3 (some q56_10)) 4 (some q56_11)) 5 (some q56_12)) 6 (some q56_13)) 7 (some q56_14))))))) := by rw [hws]; rfl
  have y3 : yl ws ro_town q29_5 = some 21 := yl_get hD 3 e3 rfl
  have e4 : ws[4]? = some (q56_7, .inr (3, [.int 0, .int 0, .int 0, .int 0, .int 0, .int 0, .int 0, .int 0, .int 0, .int 0])) := by rw [hws]; rfl
  have y4 : yl ws ro_town q56_7 = some 3 := yl_get hD 4 e4 rfl
  have e5 : ws[5]? = some (q56_8, .inr (3, [.int 0, .int 0, .int 0, .int 0, .int 0, .int 0, .int 0, .int 0, .int 0, .int 0])) := by rw [hws]; rfl
  have y5 : yl ws ro_town q56_8 = some 3 := yl_get hD 5 e5 rfl
  have e6 : ws[6]? = some (q56_9, .inr (3, [.int 0, .int 0, .int 0, .int 0, .int 0, .int 0, .int 0, .int 0, .int 0, .int 0])) := by rw [hws]; rfl
  have y6 : yl ws ro_town q56_9 = some 3 := yl_get hD 6 e6 rfl
  have e7 : ws[7]? = some (q56_10, .inr (3, [.int 0, .int 0, .int 0, .int 0, .int 0, .int 0, .int 0, .int 0, .int 0, .int 0])) := by rw [hws]; rfl
  have y7 : yl ws ro_town q56_10 = some 3 := yl_get hD 7 e7 rfl
  have e8 : ws[8]? = some (q56_11, .inr (3, [.int 0, .int 0, .int 0, .int 0, .int 0, .int 0, .int 0, .int 0, .int 0, .int 0])) := by rw [hws]; rfl
  have y8 : yl ws ro_town q56_11 = some 3 := yl_get hD 8 e8 rfl
  have e9 : ws[9]? = some (q56_12, .inr (3, [.int 0, .int 0, .int 0, .int 0, .int 0, .int 0, .int 0, .int 0, .int 0, .int 0])) := by rw [hws]; rfl
  have y9 : yl ws ro_town q56_12 = some 3 := yl_get hD 9 e9 rfl
  have e10 : ws[10]? = some (q56_13, .inr (3, [.int 0, .int 0, .int 0, .int 0, .int 0, .int 0, .int 0, .int 0, .int 0, .int 0])) := by rw [hws]; rfl
  have y10 : yl ws ro_town q56_13 = some 3 := yl_get hD 10 e10 rfl
  have e11 : ws[11]? = some (q56_14, .inr (3, [.int 0, .int 0, .int 0, .int 0, .int 0, .int 0, .int 0, .int 0, .int 0, .int 0])) := by rw [hws]; rfl
  have y11 : yl ws ro_town q56_14 = some 3 := yl_get hD 11 e11 rfl
  have e12 : ws[12]? = some (h0, .inr (7, [.int 0, .int 0, .int 0, .int 0, .int 0, .long 0, .ref q5_0, .ref q16_1, .ref q29_5, .ref q38_6])) := by rw [hws]; rfl
  have y12 : yl ws ro_town h0 = some 7 := yl_get hD 12 e12 rfl
  have e13 : ws[13]? = some (q16_1, .inr (1, [.int 0, .ref q7_0_20_2, .ref q15_1_20_3, .ref q23_2_20_4])) := by rw [hws]; rfl
  have y13 : yl ws ro_town q16_1 = some 1 := yl_get hD 13 e13 rfl
  have e14 : ws[14]? = some (q38_6, .inl (c0 0, 64, .inl g_71_15)) := by rw [hws]; rfl
  have y14 : yl ws ro_town q38_6 = some 22 := yl_get hD 14 e14 rfl
  have e15 : ws[15]? = some (q5_0, .inr (0, [.int 0, .int 2, .int 0, .int 0, .int 0])) := by rw [hws]; rfl
  have y15 : yl ws ro_town q5_0 = some 0 := yl_get hD 15 e15 rfl
  refine ⟨yl_TI (yl_all (P := fun q r => ti_c D vwCl (tysOf c0) (yl ws ro_town) (RTg (fun _ => 0) r) q H) _ _ ?_), y12, fun q h => ?_⟩
  · rw [show ws.zip ro_town = [((q7_0_20_2, .inl (c0 0, 6, .inl (fun _ => 0))), 20), ((q15_1_20_3, .inl (c0 0, 6, .inl (fun _ => 0))), 20), ((q23_2_20_4, .inl (c0 0, 6, .inl (fun _ => 0))), 28), ((q29_5, .inl (c0 6, 8, .inr (.inr (.inr (.inr (va_up (va_up (va_up (va_up (va_up (va_up (va_up (va_up (fun _ => none) 0 (some q56_7)) 1 (some q56_8)) 2 (some q56_9)) 3 (some q56_10)) 4 (some q56_11)) 5 (some q56_12)) 6 (some q56_13)) 7 (some q56_14))))))), 21), ((q56_7, .inr (3, [.int 0, .int 0, .int 0, .int 0, .int 0, .int 0, .int 0, .int 0, .int 0, .int 0])), 3), ((q56_8, .inr (3, [.int 0, .int 0, .int 0, .int 0, .int 0, .int 0, .int 0, .int 0, .int 0, .int 0])), 3), ((q56_9, .inr (3, [.int 0, .int 0, .int 0, .int 0, .int 0, .int 0, .int 0, .int 0, .int 0, .int 0])), 3), ((q56_10, .inr (3, [.int 0, .int 0, .int 0, .int 0, .int 0, .int 0, .int 0, .int 0, .int 0, .int 0])), 3), ((q56_11, .inr (3, [.int 0, .int 0, .int 0, .int 0, .int 0, .int 0, .int 0, .int 0, .int 0, .int 0])), 3), ((q56_12, .inr (3, [.int 0, .int 0, .int 0, .int 0, .int 0, .int 0, .int 0, .int 0, .int 0, .int 0])), 3), ((q56_13, .inr (3, [.int 0, .int 0, .int 0, .int 0, .int 0, .int 0, .int 0, .int 0, .int 0, .int 0])), 3), ((q56_14, .inr (3, [.int 0, .int 0, .int 0, .int 0, .int 0, .int 0, .int 0, .int 0, .int 0, .int 0])), 3), ((h0, .inr (7, [.int 0, .int 0, .int 0, .int 0, .int 0, .long 0, .ref q5_0, .ref q16_1, .ref q29_5, .ref q38_6])), 7), ((q16_1, .inr (1, [.int 0, .ref q7_0_20_2, .ref q15_1_20_3, .ref q23_2_20_4])), 1), ((q38_6, .inl (c0 0, 64, .inl g_71_15)), 22), ((q5_0, .inr (0, [.int 0, .int 2, .int 0, .int 0, .int 0])), 0)] by rw [hws]; rfl]
    refine List.forall_mem_cons.mpr ⟨tc_2 (hP 0 _ e0) , ?_⟩
    refine List.forall_mem_cons.mpr ⟨tc_2 (hP 1 _ e1) , ?_⟩
    refine List.forall_mem_cons.mpr ⟨tc_3 (hP 2 _ e2) , ?_⟩
    refine List.forall_mem_cons.mpr ⟨tc_4 (hP 3 _ e3) y4 y5 y6 y7 y8 y9 y10 y11, ?_⟩
    refine List.forall_mem_cons.mpr ⟨tc_5 (hP 4 _ e4) , ?_⟩
    refine List.forall_mem_cons.mpr ⟨tc_5 (hP 5 _ e5) , ?_⟩
    refine List.forall_mem_cons.mpr ⟨tc_5 (hP 6 _ e6) , ?_⟩
    refine List.forall_mem_cons.mpr ⟨tc_5 (hP 7 _ e7) , ?_⟩
    refine List.forall_mem_cons.mpr ⟨tc_5 (hP 8 _ e8) , ?_⟩
    refine List.forall_mem_cons.mpr ⟨tc_5 (hP 9 _ e9) , ?_⟩
    refine List.forall_mem_cons.mpr ⟨tc_5 (hP 10 _ e10) , ?_⟩
    refine List.forall_mem_cons.mpr ⟨tc_5 (hP 11 _ e11) , ?_⟩
    refine List.forall_mem_cons.mpr ⟨tc_6 (hP 12 _ e12) y15 y13 y3 y14, ?_⟩
    refine List.forall_mem_cons.mpr ⟨tc_7 (hP 13 _ e13) y0 y1 y2, ?_⟩
    refine List.forall_mem_cons.mpr ⟨tc_8 (hP 14 _ e14) , ?_⟩
    refine List.forall_mem_cons.mpr ⟨tc_9 (hP 15 _ e15) , ?_⟩
    exact fun _ h => absurd h List.not_mem_nil
  · obtain ⟨r, hr⟩ := h
    obtain ⟨k, e, h1, -⟩ := yl_inv hr
    exact hD.2 k _ h1
def ro_slot : List Nat := [5, 27]
set_option maxHeartbeats 8000000 in
set_option maxRecDepth 100000 in
theorem ty_slot {D : va_G} {c0 : Nat → ClassId} {H : Heap} {A : Nat → Prop} {ws : va_W} {h0 : Nat} {q7_0 : Nat} (hws : ws = [(h0, .inr (5, [.int 0, .int 0, .int 0, .ref q7_0])), (q7_0, .inl (c0 3, 60, .inr (.inl (fun _ => 0))))]) (hP : va_P D vwCl ws H) (hD : va_D A ws) : TI D vwCl (tysOf c0) (RTg (fun _ => 0)) (yl ws ro_slot) H ∧ yl ws ro_slot h0 = some 5 ∧ ∀ q, pA (yl ws ro_slot) q → A q := by
  have e0 : ws[0]? = some (h0, .inr (5, [.int 0, .int 0, .int 0, .ref q7_0])) := by rw [hws]; rfl
  have y0 : yl ws ro_slot h0 = some 5 := yl_get hD 0 e0 rfl
  have e1 : ws[1]? = some (q7_0, .inl (c0 3, 60, .inr (.inl (fun _ => 0)))) := by rw [hws]; rfl
  have y1 : yl ws ro_slot q7_0 = some 27 := yl_get hD 1 e1 rfl
  refine ⟨yl_TI (yl_all (P := fun q r => ti_c D vwCl (tysOf c0) (yl ws ro_slot) (RTg (fun _ => 0) r) q H) _ _ ?_), y0, fun q h => ?_⟩
  · rw [show ws.zip ro_slot = [((h0, .inr (5, [.int 0, .int 0, .int 0, .ref q7_0])), 5), ((q7_0, .inl (c0 3, 60, .inr (.inl (fun _ => 0)))), 27)] by rw [hws]; rfl]
    refine List.forall_mem_cons.mpr ⟨tc_10 (hP 0 _ e0) y1, ?_⟩
    refine List.forall_mem_cons.mpr ⟨tc_11 (hP 1 _ e1) , ?_⟩
    exact fun _ h => absurd h List.not_mem_nil
  · obtain ⟨r, hr⟩ := h
    obtain ⟨k, e, h1, -⟩ := yl_inv hr
    exact hD.2 k _ h1
def ro_scene : List Nat := [4, 29, 29]
set_option maxHeartbeats 8000000 in
set_option maxRecDepth 100000 in
theorem ty_scene {D : va_G} {c0 : Nat → ClassId} {H : Heap} {A : Nat → Prop} {ws : va_W} {h0 : Nat} {q7_0 : Nat} {q15_1 : Nat} (hws : ws = [(h0, .inr (4, [.int 0, .int 0, .int 0, .ref q7_0, .ref q15_1, .int 0, .int 0, .int 0, .int 0, .int 0, .int 0])), (q7_0, .inl (c0 0, 8, .inl (fun _ => 0))), (q15_1, .inl (c0 0, 8, .inl (fun _ => 0)))]) (hP : va_P D vwCl ws H) (hD : va_D A ws) : TI D vwCl (tysOf c0) (RTg (fun _ => 0)) (yl ws ro_scene) H ∧ yl ws ro_scene h0 = some 4 ∧ ∀ q, pA (yl ws ro_scene) q → A q := by
  have e0 : ws[0]? = some (h0, .inr (4, [.int 0, .int 0, .int 0, .ref q7_0, .ref q15_1, .int 0, .int 0, .int 0, .int 0, .int 0, .int 0])) := by rw [hws]; rfl
  have y0 : yl ws ro_scene h0 = some 4 := yl_get hD 0 e0 rfl
  have e1 : ws[1]? = some (q7_0, .inl (c0 0, 8, .inl (fun _ => 0))) := by rw [hws]; rfl
  have y1 : yl ws ro_scene q7_0 = some 29 := yl_get hD 1 e1 rfl
  have e2 : ws[2]? = some (q15_1, .inl (c0 0, 8, .inl (fun _ => 0))) := by rw [hws]; rfl
  have y2 : yl ws ro_scene q15_1 = some 29 := yl_get hD 2 e2 rfl
  refine ⟨yl_TI (yl_all (P := fun q r => ti_c D vwCl (tysOf c0) (yl ws ro_scene) (RTg (fun _ => 0) r) q H) _ _ ?_), y0, fun q h => ?_⟩
  · rw [show ws.zip ro_scene = [((h0, .inr (4, [.int 0, .int 0, .int 0, .ref q7_0, .ref q15_1, .int 0, .int 0, .int 0, .int 0, .int 0, .int 0])), 4), ((q7_0, .inl (c0 0, 8, .inl (fun _ => 0))), 29), ((q15_1, .inl (c0 0, 8, .inl (fun _ => 0))), 29)] by rw [hws]; rfl]
    refine List.forall_mem_cons.mpr ⟨tc_12 (hP 0 _ e0) y1 y2, ?_⟩
    refine List.forall_mem_cons.mpr ⟨tc_13 (hP 1 _ e1) , ?_⟩
    refine List.forall_mem_cons.mpr ⟨tc_13 (hP 2 _ e2) , ?_⟩
    exact fun _ h => absurd h List.not_mem_nil
  · obtain ⟨r, hr⟩ := h
    obtain ⟨k, e, h1, -⟩ := yl_inv hr
    exact hD.2 k _ h1
def ro_mind : List Nat := [2, 4, 29, 29, 29]
set_option maxHeartbeats 8000000 in
set_option maxRecDepth 100000 in
theorem ty_mind {D : va_G} {c0 : Nat → ClassId} {H : Heap} {A : Nat → Prop} {ws : va_W} {h0 : Nat} {q5_0 : Nat} {q7_0_9_1 : Nat} {q15_1_9_2 : Nat} {q18_3 : Nat} (hws : ws = [(h0, .inr (2, [.ref q5_0, .ref q18_3, .int 0, .int 0, .int 0, .int 0, .int 0, .int 0, .int 0])), (q5_0, .inr (4, [.int 0, .int 0, .int 0, .ref q7_0_9_1, .ref q15_1_9_2, .int 0, .int 0, .int 0, .int 0, .int 0, .int 0])), (q7_0_9_1, .inl (c0 0, 8, .inl (fun _ => 0))), (q15_1_9_2, .inl (c0 0, 8, .inl (fun _ => 0))), (q18_3, .inl (c0 0, 8, .inl (fun _ => 0)))]) (hP : va_P D vwCl ws H) (hD : va_D A ws) : TI D vwCl (tysOf c0) (RTg (fun _ => 0)) (yl ws ro_mind) H ∧ yl ws ro_mind h0 = some 2 ∧ ∀ q, pA (yl ws ro_mind) q → A q := by
  have e0 : ws[0]? = some (h0, .inr (2, [.ref q5_0, .ref q18_3, .int 0, .int 0, .int 0, .int 0, .int 0, .int 0, .int 0])) := by rw [hws]; rfl
  have y0 : yl ws ro_mind h0 = some 2 := yl_get hD 0 e0 rfl
  have e1 : ws[1]? = some (q5_0, .inr (4, [.int 0, .int 0, .int 0, .ref q7_0_9_1, .ref q15_1_9_2, .int 0, .int 0, .int 0, .int 0, .int 0, .int 0])) := by rw [hws]; rfl
  have y1 : yl ws ro_mind q5_0 = some 4 := yl_get hD 1 e1 rfl
  have e2 : ws[2]? = some (q7_0_9_1, .inl (c0 0, 8, .inl (fun _ => 0))) := by rw [hws]; rfl
  have y2 : yl ws ro_mind q7_0_9_1 = some 29 := yl_get hD 2 e2 rfl
  have e3 : ws[3]? = some (q15_1_9_2, .inl (c0 0, 8, .inl (fun _ => 0))) := by rw [hws]; rfl
  have y3 : yl ws ro_mind q15_1_9_2 = some 29 := yl_get hD 3 e3 rfl
  have e4 : ws[4]? = some (q18_3, .inl (c0 0, 8, .inl (fun _ => 0))) := by rw [hws]; rfl
  have y4 : yl ws ro_mind q18_3 = some 29 := yl_get hD 4 e4 rfl
  refine ⟨yl_TI (yl_all (P := fun q r => ti_c D vwCl (tysOf c0) (yl ws ro_mind) (RTg (fun _ => 0) r) q H) _ _ ?_), y0, fun q h => ?_⟩
  · rw [show ws.zip ro_mind = [((h0, .inr (2, [.ref q5_0, .ref q18_3, .int 0, .int 0, .int 0, .int 0, .int 0, .int 0, .int 0])), 2), ((q5_0, .inr (4, [.int 0, .int 0, .int 0, .ref q7_0_9_1, .ref q15_1_9_2, .int 0, .int 0, .int 0, .int 0, .int 0, .int 0])), 4), ((q7_0_9_1, .inl (c0 0, 8, .inl (fun _ => 0))), 29), ((q15_1_9_2, .inl (c0 0, 8, .inl (fun _ => 0))), 29), ((q18_3, .inl (c0 0, 8, .inl (fun _ => 0))), 29)] by rw [hws]; rfl]
    refine List.forall_mem_cons.mpr ⟨tc_14 (hP 0 _ e0) y1 y4, ?_⟩
    refine List.forall_mem_cons.mpr ⟨tc_12 (hP 1 _ e1) y2 y3, ?_⟩
    refine List.forall_mem_cons.mpr ⟨tc_13 (hP 2 _ e2) , ?_⟩
    refine List.forall_mem_cons.mpr ⟨tc_13 (hP 3 _ e3) , ?_⟩
    refine List.forall_mem_cons.mpr ⟨tc_13 (hP 4 _ e4) , ?_⟩
    exact fun _ h => absurd h List.not_mem_nil
  · obtain ⟨r, hr⟩ := h
    obtain ⟨k, e, h1, -⟩ := yl_inv hr
    exact hD.2 k _ h1
def ro_walk : List Nat := [8, 2, 4, 29, 29, 29, 4, 29, 29, 29]
set_option maxHeartbeats 8000000 in
set_option maxRecDepth 100000 in
theorem ty_walk {D : va_G} {c0 : Nat → ClassId} {H : Heap} {A : Nat → Prop} {ws : va_W} {h0 : Nat} {q5_0 : Nat} {q5_0_9_1 : Nat} {q7_0_9_1_9_2 : Nat} {q15_1_9_2_9_3 : Nat} {q18_3_9_4 : Nat} {q16_5 : Nat} {q7_0_20_6 : Nat} {q15_1_20_7 : Nat} {q29_8 : Nat} (hws : ws = [(h0, .inr (8, [.ref q5_0, .ref q16_5, .ref q29_8, .int 0, .int 0])), (q5_0, .inr (2, [.ref q5_0_9_1, .ref q18_3_9_4, .int 0, .int 0, .int 0, .int 0, .int 0, .int 0, .int 0])), (q5_0_9_1, .inr (4, [.int 0, .int 0, .int 0, .ref q7_0_9_1_9_2, .ref q15_1_9_2_9_3, .int 0, .int 0, .int 0, .int 0, .int 0, .int 0])), (q7_0_9_1_9_2, .inl (c0 0, 8, .inl (fun _ => 0))), (q15_1_9_2_9_3, .inl (c0 0, 8, .inl (fun _ => 0))), (q18_3_9_4, .inl (c0 0, 8, .inl (fun _ => 0))), (q16_5, .inr (4, [.int 0, .int 0, .int 0, .ref q7_0_20_6, .ref q15_1_20_7, .int 0, .int 0, .int 0, .int 0, .int 0, .int 0])), (q7_0_20_6, .inl (c0 0, 8, .inl (fun _ => 0))), (q15_1_20_7, .inl (c0 0, 8, .inl (fun _ => 0))), (q29_8, .inl (c0 0, 8, .inl (fun _ => 0)))]) (hP : va_P D vwCl ws H) (hD : va_D A ws) : TI D vwCl (tysOf c0) (RTg (fun _ => 0)) (yl ws ro_walk) H ∧ yl ws ro_walk h0 = some 8 ∧ ∀ q, pA (yl ws ro_walk) q → A q := by
  have e0 : ws[0]? = some (h0, .inr (8, [.ref q5_0, .ref q16_5, .ref q29_8, .int 0, .int 0])) := by rw [hws]; rfl
  have y0 : yl ws ro_walk h0 = some 8 := yl_get hD 0 e0 rfl
  have e1 : ws[1]? = some (q5_0, .inr (2, [.ref q5_0_9_1, .ref q18_3_9_4, .int 0, .int 0, .int 0, .int 0, .int 0, .int 0, .int 0])) := by rw [hws]; rfl
  have y1 : yl ws ro_walk q5_0 = some 2 := yl_get hD 1 e1 rfl
  have e2 : ws[2]? = some (q5_0_9_1, .inr (4, [.int 0, .int 0, .int 0, .ref q7_0_9_1_9_2, .ref q15_1_9_2_9_3, .int 0, .int 0, .int 0, .int 0, .int 0, .int 0])) := by rw [hws]; rfl
  have y2 : yl ws ro_walk q5_0_9_1 = some 4 := yl_get hD 2 e2 rfl
  have e3 : ws[3]? = some (q7_0_9_1_9_2, .inl (c0 0, 8, .inl (fun _ => 0))) := by rw [hws]; rfl
  have y3 : yl ws ro_walk q7_0_9_1_9_2 = some 29 := yl_get hD 3 e3 rfl
  have e4 : ws[4]? = some (q15_1_9_2_9_3, .inl (c0 0, 8, .inl (fun _ => 0))) := by rw [hws]; rfl
  have y4 : yl ws ro_walk q15_1_9_2_9_3 = some 29 := yl_get hD 4 e4 rfl
  have e5 : ws[5]? = some (q18_3_9_4, .inl (c0 0, 8, .inl (fun _ => 0))) := by rw [hws]; rfl
  have y5 : yl ws ro_walk q18_3_9_4 = some 29 := yl_get hD 5 e5 rfl
  have e6 : ws[6]? = some (q16_5, .inr (4, [.int 0, .int 0, .int 0, .ref q7_0_20_6, .ref q15_1_20_7, .int 0, .int 0, .int 0, .int 0, .int 0, .int 0])) := by rw [hws]; rfl
  have y6 : yl ws ro_walk q16_5 = some 4 := yl_get hD 6 e6 rfl
  have e7 : ws[7]? = some (q7_0_20_6, .inl (c0 0, 8, .inl (fun _ => 0))) := by rw [hws]; rfl
  have y7 : yl ws ro_walk q7_0_20_6 = some 29 := yl_get hD 7 e7 rfl
  have e8 : ws[8]? = some (q15_1_20_7, .inl (c0 0, 8, .inl (fun _ => 0))) := by rw [hws]; rfl
  have y8 : yl ws ro_walk q15_1_20_7 = some 29 := yl_get hD 8 e8 rfl
  have e9 : ws[9]? = some (q29_8, .inl (c0 0, 8, .inl (fun _ => 0))) := by rw [hws]; rfl
  have y9 : yl ws ro_walk q29_8 = some 29 := yl_get hD 9 e9 rfl
  refine ⟨yl_TI (yl_all (P := fun q r => ti_c D vwCl (tysOf c0) (yl ws ro_walk) (RTg (fun _ => 0) r) q H) _ _ ?_), y0, fun q h => ?_⟩
  · rw [show ws.zip ro_walk = [((h0, .inr (8, [.ref q5_0, .ref q16_5, .ref q29_8, .int 0, .int 0])), 8), ((q5_0, .inr (2, [.ref q5_0_9_1, .ref q18_3_9_4, .int 0, .int 0, .int 0, .int 0, .int 0, .int 0, .int 0])), 2), ((q5_0_9_1, .inr (4, [.int 0, .int 0, .int 0, .ref q7_0_9_1_9_2, .ref q15_1_9_2_9_3, .int 0, .int 0, .int 0, .int 0, .int 0, .int 0])), 4), ((q7_0_9_1_9_2, .inl (c0 0, 8, .inl (fun _ => 0))), 29), ((q15_1_9_2_9_3, .inl (c0 0, 8, .inl (fun _ => 0))), 29), ((q18_3_9_4, .inl (c0 0, 8, .inl (fun _ => 0))), 29), ((q16_5, .inr (4, [.int 0, .int 0, .int 0, .ref q7_0_20_6, .ref q15_1_20_7, .int 0, .int 0, .int 0, .int 0, .int 0, .int 0])), 4), ((q7_0_20_6, .inl (c0 0, 8, .inl (fun _ => 0))), 29), ((q15_1_20_7, .inl (c0 0, 8, .inl (fun _ => 0))), 29), ((q29_8, .inl (c0 0, 8, .inl (fun _ => 0))), 29)] by rw [hws]; rfl]
    refine List.forall_mem_cons.mpr ⟨tc_15 (hP 0 _ e0) y1 y6 y9, ?_⟩
    refine List.forall_mem_cons.mpr ⟨tc_14 (hP 1 _ e1) y2 y5, ?_⟩
    refine List.forall_mem_cons.mpr ⟨tc_12 (hP 2 _ e2) y3 y4, ?_⟩
    refine List.forall_mem_cons.mpr ⟨tc_13 (hP 3 _ e3) , ?_⟩
    refine List.forall_mem_cons.mpr ⟨tc_13 (hP 4 _ e4) , ?_⟩
    refine List.forall_mem_cons.mpr ⟨tc_13 (hP 5 _ e5) , ?_⟩
    refine List.forall_mem_cons.mpr ⟨tc_12 (hP 6 _ e6) y7 y8, ?_⟩
    refine List.forall_mem_cons.mpr ⟨tc_13 (hP 7 _ e7) , ?_⟩
    refine List.forall_mem_cons.mpr ⟨tc_13 (hP 8 _ e8) , ?_⟩
    refine List.forall_mem_cons.mpr ⟨tc_13 (hP 9 _ e9) , ?_⟩
    exact fun _ h => absurd h List.not_mem_nil
  · obtain ⟨r, hr⟩ := h
    obtain ⟨k, e, h1, -⟩ := yl_inv hr
    exact hD.2 k _ h1
def ro_mod : List Nat := [10, 31, 32, 33, 34, 35, 36, 41, 42, 29, 29, 43, 29, 29, 46, 29, 29, 44, 40, 40, 37, 38, 39, 27, 30]
set_option maxHeartbeats 8000000 in
set_option maxRecDepth 100000 in
theorem ty_mod {D : va_G} {c0 : Nat → ClassId} {H : Heap} {A : Nat → Prop} {ws : va_W} {h0 : Nat} {q8_0 : Nat} {q17_1 : Nat} {q24_2 : Nat} {q31_3 : Nat} {q40_4 : Nat} {q47_5 : Nat} {q61_6 : Nat} {q70_7 : Nat} {q77_8 : Nat} {q85_9 : Nat} {q93_10 : Nat} {q100_11 : Nat} {q108_12 : Nat} {q116_13 : Nat} {q123_14 : Nat} {q131_15 : Nat} {q139_16 : Nat} {q147_17 : Nat} {q154_18 : Nat} {q161_19 : Nat} {q168_20 : Nat} {q191_21 : Nat} {q200_22 : Nat} {q208_23 : Nat} {g_217_24 : Nat → Int32} (hE : ∀ j : Nat, j < 178 → g_217_24 j = if j = 3 then 2 else if 96 ≤ j ∧ j < 160 then 1 else 0) (hws : ws = [(h0, .inr (10, [.int 0, .ref q8_0, .ref q17_1, .ref q24_2, .ref q31_3, .ref q40_4, .int 0, .ref q47_5, .int 0, .int 0, .int 0, .int 0, .int 0, .int 0, .int (-1), .ref q61_6, .long 0, .ref q70_7, .ref q77_8, .int 0, .ref q85_9, .ref q93_10, .int 0, .int 0, .ref q100_11, .ref q108_12, .ref q116_13, .int 0, .ref q123_14, .ref q131_15, .ref q139_16, .ref q147_17, .ref q154_18, .ref q161_19, .ref q168_20, .ref q191_21, .ref q200_22, .ref q208_23])), (q17_1, .inl (c0 0, 534, .inl (fun _ => 0))), (q24_2, .inl (c0 3, 3, .inr (.inl (fun _ => 0)))), (q31_3, .inl (c0 2, 3, .inl (fun _ => 0))), (q40_4, .inl (c0 1, 1600, .inl (fun _ => 0))), (q47_5, .inl (c0 0, 5, .inl (fun _ => 0))), (q61_6, .inl (c0 0, 178, .inl (fun _ => 0))), (q70_7, .inl (c0 0, 712, .inl (fun _ => 0))), (q77_8, .inl (c0 3, 4, .inr (.inl (fun _ => 0)))), (q85_9, .inl (c0 0, 8, .inl (fun _ => 0))), (q93_10, .inl (c0 0, 8, .inl (fun _ => 0))), (q100_11, .inl (c0 0, 5, .inl (fun _ => 0))), (q108_12, .inl (c0 0, 8, .inl (fun _ => 0))), (q116_13, .inl (c0 0, 8, .inl (fun _ => 0))), (q123_14, .inl (c0 0, 5, .inl (fun _ => 0))), (q131_15, .inl (c0 0, 8, .inl (fun _ => 0))), (q139_16, .inl (c0 0, 8, .inl (fun _ => 0))), (q147_17, .inl (c0 0, 30, .inl (fun _ => 0))), (q154_18, .inl (c0 0, 4, .inl (fun _ => 0))), (q161_19, .inl (c0 0, 4, .inl (fun _ => 0))), (q168_20, .inl (c0 0, 4, .inl (upd (upd (upd (upd (fun _ => 0) 0 (-1)) 1 (-1)) 2 (-1)) 3 (-1)))), (q191_21, .inl (c0 0, 4, .inl (fun _ => 0))), (q200_22, .inl (c0 3, 240, .inr (.inl (fun _ => 0)))), (q208_23, .inl (c0 3, 60, .inr (.inl (fun _ => 0)))), (q8_0, .inl (c0 0, 178, .inl g_217_24))]) (hP : va_P D vwCl ws H) (hD : va_D A ws) : TI D vwCl (tysOf c0) (RTg (fun _ => 0)) (yl ws ro_mod) H ∧ yl ws ro_mod h0 = some 10 ∧ uq (yl ws ro_mod) ∧ ∀ q, pA (yl ws ro_mod) q → A q := by
  have e0 : ws[0]? = some (h0, .inr (10, [.int 0, .ref q8_0, .ref q17_1, .ref q24_2, .ref q31_3, .ref q40_4, .int 0, .ref q47_5, .int 0, .int 0, .int 0, .int 0, .int 0, .int 0, .int (-1), .ref q61_6, .long 0, .ref q70_7, .ref q77_8, .int 0, .ref q85_9, .ref q93_10, .int 0, .int 0, .ref q100_11, .ref q108_12, .ref q116_13, .int 0, .ref q123_14, .ref q131_15, .ref q139_16, .ref q147_17, .ref q154_18, .ref q161_19, .ref q168_20, .ref q191_21, .ref q200_22, .ref q208_23])) := by rw [hws]; rfl
  have y0 : yl ws ro_mod h0 = some 10 := yl_get hD 0 e0 rfl
  have e1 : ws[1]? = some (q17_1, .inl (c0 0, 534, .inl (fun _ => 0))) := by rw [hws]; rfl
  have y1 : yl ws ro_mod q17_1 = some 31 := yl_get hD 1 e1 rfl
  have e2 : ws[2]? = some (q24_2, .inl (c0 3, 3, .inr (.inl (fun _ => 0)))) := by rw [hws]; rfl
  have y2 : yl ws ro_mod q24_2 = some 32 := yl_get hD 2 e2 rfl
  have e3 : ws[3]? = some (q31_3, .inl (c0 2, 3, .inl (fun _ => 0))) := by rw [hws]; rfl
  have y3 : yl ws ro_mod q31_3 = some 33 := yl_get hD 3 e3 rfl
  have e4 : ws[4]? = some (q40_4, .inl (c0 1, 1600, .inl (fun _ => 0))) := by rw [hws]; rfl
  have y4 : yl ws ro_mod q40_4 = some 34 := yl_get hD 4 e4 rfl
  have e5 : ws[5]? = some (q47_5, .inl (c0 0, 5, .inl (fun _ => 0))) := by rw [hws]; rfl
  have y5 : yl ws ro_mod q47_5 = some 35 := yl_get hD 5 e5 rfl
  have e6 : ws[6]? = some (q61_6, .inl (c0 0, 178, .inl (fun _ => 0))) := by rw [hws]; rfl
  have y6 : yl ws ro_mod q61_6 = some 36 := yl_get hD 6 e6 rfl
  have e7 : ws[7]? = some (q70_7, .inl (c0 0, 712, .inl (fun _ => 0))) := by rw [hws]; rfl
  have y7 : yl ws ro_mod q70_7 = some 41 := yl_get hD 7 e7 rfl
  have e8 : ws[8]? = some (q77_8, .inl (c0 3, 4, .inr (.inl (fun _ => 0)))) := by rw [hws]; rfl
  have y8 : yl ws ro_mod q77_8 = some 42 := yl_get hD 8 e8 rfl
  have e9 : ws[9]? = some (q85_9, .inl (c0 0, 8, .inl (fun _ => 0))) := by rw [hws]; rfl
  have y9 : yl ws ro_mod q85_9 = some 29 := yl_get hD 9 e9 rfl
  have e10 : ws[10]? = some (q93_10, .inl (c0 0, 8, .inl (fun _ => 0))) := by rw [hws]; rfl
  have y10 : yl ws ro_mod q93_10 = some 29 := yl_get hD 10 e10 rfl
  have e11 : ws[11]? = some (q100_11, .inl (c0 0, 5, .inl (fun _ => 0))) := by rw [hws]; rfl
  have y11 : yl ws ro_mod q100_11 = some 43 := yl_get hD 11 e11 rfl
  have e12 : ws[12]? = some (q108_12, .inl (c0 0, 8, .inl (fun _ => 0))) := by rw [hws]; rfl
  have y12 : yl ws ro_mod q108_12 = some 29 := yl_get hD 12 e12 rfl
  have e13 : ws[13]? = some (q116_13, .inl (c0 0, 8, .inl (fun _ => 0))) := by rw [hws]; rfl
  have y13 : yl ws ro_mod q116_13 = some 29 := yl_get hD 13 e13 rfl
  have e14 : ws[14]? = some (q123_14, .inl (c0 0, 5, .inl (fun _ => 0))) := by rw [hws]; rfl
  have y14 : yl ws ro_mod q123_14 = some 46 := yl_get hD 14 e14 rfl
  have e15 : ws[15]? = some (q131_15, .inl (c0 0, 8, .inl (fun _ => 0))) := by rw [hws]; rfl
  have y15 : yl ws ro_mod q131_15 = some 29 := yl_get hD 15 e15 rfl
  have e16 : ws[16]? = some (q139_16, .inl (c0 0, 8, .inl (fun _ => 0))) := by rw [hws]; rfl
  have y16 : yl ws ro_mod q139_16 = some 29 := yl_get hD 16 e16 rfl
  have e17 : ws[17]? = some (q147_17, .inl (c0 0, 30, .inl (fun _ => 0))) := by rw [hws]; rfl
  have y17 : yl ws ro_mod q147_17 = some 44 := yl_get hD 17 e17 rfl
  have e18 : ws[18]? = some (q154_18, .inl (c0 0, 4, .inl (fun _ => 0))) := by rw [hws]; rfl
  have y18 : yl ws ro_mod q154_18 = some 40 := yl_get hD 18 e18 rfl
  have e19 : ws[19]? = some (q161_19, .inl (c0 0, 4, .inl (fun _ => 0))) := by rw [hws]; rfl
  have y19 : yl ws ro_mod q161_19 = some 40 := yl_get hD 19 e19 rfl
  have e20 : ws[20]? = some (q168_20, .inl (c0 0, 4, .inl (upd (upd (upd (upd (fun _ => 0) 0 (-1)) 1 (-1)) 2 (-1)) 3 (-1)))) := by rw [hws]; rfl
  have y20 : yl ws ro_mod q168_20 = some 37 := yl_get hD 20 e20 rfl
  have e21 : ws[21]? = some (q191_21, .inl (c0 0, 4, .inl (fun _ => 0))) := by rw [hws]; rfl
  have y21 : yl ws ro_mod q191_21 = some 38 := yl_get hD 21 e21 rfl
  have e22 : ws[22]? = some (q200_22, .inl (c0 3, 240, .inr (.inl (fun _ => 0)))) := by rw [hws]; rfl
  have y22 : yl ws ro_mod q200_22 = some 39 := yl_get hD 22 e22 rfl
  have e23 : ws[23]? = some (q208_23, .inl (c0 3, 60, .inr (.inl (fun _ => 0)))) := by rw [hws]; rfl
  have y23 : yl ws ro_mod q208_23 = some 27 := yl_get hD 23 e23 rfl
  have e24 : ws[24]? = some (q8_0, .inl (c0 0, 178, .inl g_217_24)) := by rw [hws]; rfl
  have y24 : yl ws ro_mod q8_0 = some 30 := yl_get hD 24 e24 rfl
  refine ⟨yl_TI (yl_all (P := fun q r => ti_c D vwCl (tysOf c0) (yl ws ro_mod) (RTg (fun _ => 0) r) q H) _ _ ?_), y0, yl_uq (by decide +kernel), fun q h => ?_⟩
  · rw [show ws.zip ro_mod = [((h0, .inr (10, [.int 0, .ref q8_0, .ref q17_1, .ref q24_2, .ref q31_3, .ref q40_4, .int 0, .ref q47_5, .int 0, .int 0, .int 0, .int 0, .int 0, .int 0, .int (-1), .ref q61_6, .long 0, .ref q70_7, .ref q77_8, .int 0, .ref q85_9, .ref q93_10, .int 0, .int 0, .ref q100_11, .ref q108_12, .ref q116_13, .int 0, .ref q123_14, .ref q131_15, .ref q139_16, .ref q147_17, .ref q154_18, .ref q161_19, .ref q168_20, .ref q191_21, .ref q200_22, .ref q208_23])), 10), ((q17_1, .inl (c0 0, 534, .inl (fun _ => 0))), 31), ((q24_2, .inl (c0 3, 3, .inr (.inl (fun _ => 0)))), 32), ((q31_3, .inl (c0 2, 3, .inl (fun _ => 0))), 33), ((q40_4, .inl (c0 1, 1600, .inl (fun _ => 0))), 34), ((q47_5, .inl (c0 0, 5, .inl (fun _ => 0))), 35), ((q61_6, .inl (c0 0, 178, .inl (fun _ => 0))), 36), ((q70_7, .inl (c0 0, 712, .inl (fun _ => 0))), 41), ((q77_8, .inl (c0 3, 4, .inr (.inl (fun _ => 0)))), 42), ((q85_9, .inl (c0 0, 8, .inl (fun _ => 0))), 29), ((q93_10, .inl (c0 0, 8, .inl (fun _ => 0))), 29), ((q100_11, .inl (c0 0, 5, .inl (fun _ => 0))), 43), ((q108_12, .inl (c0 0, 8, .inl (fun _ => 0))), 29), ((q116_13, .inl (c0 0, 8, .inl (fun _ => 0))), 29), ((q123_14, .inl (c0 0, 5, .inl (fun _ => 0))), 46), ((q131_15, .inl (c0 0, 8, .inl (fun _ => 0))), 29), ((q139_16, .inl (c0 0, 8, .inl (fun _ => 0))), 29), ((q147_17, .inl (c0 0, 30, .inl (fun _ => 0))), 44), ((q154_18, .inl (c0 0, 4, .inl (fun _ => 0))), 40), ((q161_19, .inl (c0 0, 4, .inl (fun _ => 0))), 40), ((q168_20, .inl (c0 0, 4, .inl (upd (upd (upd (upd (fun _ => 0) 0 (-1)) 1 (-1)) 2 (-1)) 3 (-1)))), 37), ((q191_21, .inl (c0 0, 4, .inl (fun _ => 0))), 38), ((q200_22, .inl (c0 3, 240, .inr (.inl (fun _ => 0)))), 39), ((q208_23, .inl (c0 3, 60, .inr (.inl (fun _ => 0)))), 27), ((q8_0, .inl (c0 0, 178, .inl g_217_24)), 30)] by rw [hws]; rfl]
    refine List.forall_mem_cons.mpr ⟨tc_21 (hP 0 _ e0) y24 y1 y2 y3 y4 y5 y6 y7 y8 y9 y10 y11 y12 y13 y14 y15 y16 y17 y18 y19 y20 y21 y22 y23, ?_⟩
    refine List.forall_mem_cons.mpr ⟨tc_22 (hP 1 _ e1) , ?_⟩
    refine List.forall_mem_cons.mpr ⟨tc_23 (hP 2 _ e2) , ?_⟩
    refine List.forall_mem_cons.mpr ⟨tc_24 (hP 3 _ e3) , ?_⟩
    refine List.forall_mem_cons.mpr ⟨tc_25 (hP 4 _ e4) , ?_⟩
    refine List.forall_mem_cons.mpr ⟨tc_26 (hP 5 _ e5) , ?_⟩
    refine List.forall_mem_cons.mpr ⟨tc_27 (hP 6 _ e6) , ?_⟩
    refine List.forall_mem_cons.mpr ⟨tc_28 (hP 7 _ e7) , ?_⟩
    refine List.forall_mem_cons.mpr ⟨tc_29 (hP 8 _ e8) , ?_⟩
    refine List.forall_mem_cons.mpr ⟨tc_13 (hP 9 _ e9) , ?_⟩
    refine List.forall_mem_cons.mpr ⟨tc_13 (hP 10 _ e10) , ?_⟩
    refine List.forall_mem_cons.mpr ⟨tc_30 (hP 11 _ e11) , ?_⟩
    refine List.forall_mem_cons.mpr ⟨tc_13 (hP 12 _ e12) , ?_⟩
    refine List.forall_mem_cons.mpr ⟨tc_13 (hP 13 _ e13) , ?_⟩
    refine List.forall_mem_cons.mpr ⟨tc_31 (hP 14 _ e14) , ?_⟩
    refine List.forall_mem_cons.mpr ⟨tc_13 (hP 15 _ e15) , ?_⟩
    refine List.forall_mem_cons.mpr ⟨tc_13 (hP 16 _ e16) , ?_⟩
    refine List.forall_mem_cons.mpr ⟨tc_32 (hP 17 _ e17) , ?_⟩
    refine List.forall_mem_cons.mpr ⟨tc_20 (hP 18 _ e18) , ?_⟩
    refine List.forall_mem_cons.mpr ⟨tc_20 (hP 19 _ e19) , ?_⟩
    refine List.forall_mem_cons.mpr ⟨tc_33 (hP 20 _ e20) , ?_⟩
    refine List.forall_mem_cons.mpr ⟨tc_34 (hP 21 _ e21) , ?_⟩
    refine List.forall_mem_cons.mpr ⟨tc_35 (hP 22 _ e22) , ?_⟩
    refine List.forall_mem_cons.mpr ⟨tc_11 (hP 23 _ e23) , ?_⟩
    refine List.forall_mem_cons.mpr ⟨tc_36 (hP 24 _ e24) hE, ?_⟩
    exact fun _ h => absurd h List.not_mem_nil
  · obtain ⟨r, hr⟩ := h
    obtain ⟨k, e, h1, -⟩ := yl_inv hr
    exact hD.2 k _ h1
