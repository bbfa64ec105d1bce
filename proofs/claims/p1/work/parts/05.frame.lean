/-! method frames over the law's own words -/
def wz (y : MethodName) (b : ByteArray) (n : Nat) (r : Option FieldType) : List Cond := .code y b n r :: wq
theorem wz_all : wq.all goodWord = true := by decide +kernel
theorem wz_good {y : MethodName} {b : ByteArray} {n : Nat} {r : Option FieldType} (h : Cond.code y b n r ∈ wq) : GoodIn wq (wz y b n r) := by
  intro w hw
  rcases List.mem_cons.mp hw with e | e
  · subst e
    exact ⟨h, good_of_word (List.all_eq_true.mp wz_all _ h)⟩
  · exact ⟨e, good_of_word (List.all_eq_true.mp wz_all _ e)⟩
theorem wz_one {w : Cond} (h : w ∈ wq) : w ∈ wq ∧ ((w.onTables && w.keeps) = true ∨ ∃ ty, w = .arrayClass ty) := ⟨h, good_of_word (List.all_eq_true.mp wz_all _ h)⟩
theorem good_V {own C : String} {idx : Nat} {y : MethodName} {b : ByteArray} {n : Nat} {r : Option FieldType} (h1 : Cond.methodLink own idx y ∈ wq) (h2 : Cond.instanceMethod y ∈ wq) (h3 : Cond.selects C y y ∈ wq) (h4 : Cond.initialized C ∈ wq) (h5 : Cond.code y b n r ∈ wq) : GoodIn wq (wsV own idx C y (wz y b n r)) := by
  intro w hw
  rcases List.mem_append.mp hw with e | e
  · simp only [List.mem_cons, List.not_mem_nil, or_false] at e
    rcases e with e | e | e | e <;> subst e
    · exact wz_one h1
    · exact wz_one h2
    · exact wz_one h3
    · exact wz_one h4
  · exact wz_good h5 w e
theorem good_S {own : String} {idx : Nat} {y : MethodName} {b : ByteArray} {n : Nat} {r : Option FieldType} (h1 : Cond.methodLink own idx y ∈ wq) (h2 : Cond.static y ∈ wq) (h4 : Cond.initialized own ∈ wq) (h5 : Cond.code y b n r ∈ wq) : GoodIn wq (wsS own idx y (wz y b n r)) := by
  intro w hw
  rcases List.mem_append.mp hw with e | e
  · simp only [List.mem_cons, List.not_mem_nil, or_false] at e
    rcases e with e | e | e <;> subst e
    · exact wz_one h1
    · exact wz_one h2
    · exact wz_one h4
  · exact wz_good h5 w e
theorem aT0 {D : va_G} {c0 : Nat → ClassId} {s : State} (hK : va_K D vwCl (tysOf c0) s) : ∀ cA ty, (tysOf c0)[0]? = some (cA, ty) → ArrOfT s cA .int := fun _ _ h => by cases h; exact (hK.2 0 _ rfl).1
theorem aT1 {D : va_G} {c0 : Nat → ClassId} {s : State} (hK : va_K D vwCl (tysOf c0) s) : ∀ cA ty, (tysOf c0)[1]? = some (cA, ty) → ArrOfT s cA .byte := fun _ _ h => by cases h; exact (hK.2 1 _ rfl).1
theorem aT2 {D : va_G} {c0 : Nat → ClassId} {s : State} (hK : va_K D vwCl (tysOf c0) s) : ∀ cA ty, (tysOf c0)[2]? = some (cA, ty) → ArrOfT s cA .boolean := fun _ _ h => by cases h; exact (hK.2 2 _ rfl).1
theorem aT3 {D : va_G} {c0 : Nat → ClassId} {s : State} (hK : va_K D vwCl (tysOf c0) s) : ∀ cA ty, (tysOf c0)[3]? = some (cA, ty) → ArrOfT s cA .long := fun _ _ h => by cases h; exact (hK.2 3 _ rfl).1
theorem aT4 {D : va_G} {c0 : Nat → ClassId} {s : State} (hK : va_K D vwCl (tysOf c0) s) : ∀ cA ty, (tysOf c0)[4]? = some (cA, ty) → ArrOfT s cA (.object "SixStroke$Town") := fun _ _ h => by cases h; exact (hK.2 4 _ rfl).1
theorem aT5 {D : va_G} {c0 : Nat → ClassId} {s : State} (hK : va_K D vwCl (tysOf c0) s) : ∀ cA ty, (tysOf c0)[5]? = some (cA, ty) → ArrOfT s cA (.object "SixStroke$Slot") := fun _ _ h => by cases h; exact (hK.2 5 _ rfl).1
theorem aT6 {D : va_G} {c0 : Nat → ClassId} {s : State} (hK : va_K D vwCl (tysOf c0) s) : ∀ cA ty, (tysOf c0)[6]? = some (cA, ty) → ArrOfT s cA (.object "SixStroke$Person") := fun _ _ h => by cases h; exact (hK.2 6 _ rfl).1
section TIM
variable {p : Program} {l : Launch} {e : Env} {R : Room} {s : State} {m : MethodId} {args : Array Value} {below : List Frame} {meth : Method} {c : Code} {Q : State → Prop} {cc : ByteArray} {Y : Nat → Option Nat} {g : JFrame}
theorem ti_mi {B : Int32 → Heap → Prop} (hexec : p.tables.exec = Jvm.exec) (hb : c.code = cc) (hr : meth.sig.returnType = some .int) (hlocks : meth.locks = false) (key : ∀ Q : State → Prop, (∀ (pc : Nat) (ls : Array Slot) (H : Heap) (locs : List Loc) (x : Int32), decode cc pc = .ok (.ireturn, 1) → B x H → va_S (pA Y) s.heap H locs → W p l e R s m args below meth c H locs 0 0 Q (F0 m pc ls [.int x])) → W p l e R s m args below meth c s.heap [] 0 0 Q g) : W p l e R s m args below meth c s.heap [] 0 0 (MQ below (TQi B Y) args s 0 0 (pA Y)) g :=
  key _ fun pc ls H locs x hd hB hS => W.iret hexec hb hr (fun t ht hW => ⟨⟨x, rfl, by rw [ht]; exact hB⟩, hS.F ht⟩) hS.2.2 hd hlocks
theorem ti_mz {B : Int32 → Heap → Prop} (hexec : p.tables.exec = Jvm.exec) (hb : c.code = cc) (hr : meth.sig.returnType = some .boolean) (hlocks : meth.locks = false) (key : ∀ Q : State → Prop, (∀ (pc : Nat) (ls : Array Slot) (H : Heap) (locs : List Loc) (x : Int32), decode cc pc = .ok (.ireturn, 1) → iv x 0 1 → B x H → va_S (pA Y) s.heap H locs → W p l e R s m args below meth c H locs 0 0 Q (F0 m pc ls [.int x])) → W p l e R s m args below meth c s.heap [] 0 0 Q g) : W p l e R s m args below meth c s.heap [] 0 0 (MQ below (TQi B Y) args s 0 0 (pA Y)) g :=
  key _ fun pc ls H locs x hd h01 hB hS => W.zret hexec hb hr (ti_nz h01).1 (fun t ht hW => ⟨⟨x, rfl, by rw [ht]; exact hB⟩, hS.F ht⟩) hS.2.2 hd hlocks
theorem ti_mv {B : Heap → Prop} (hexec : p.tables.exec = Jvm.exec) (hb : c.code = cc) (hr : meth.sig.returnType = none) (hlocks : meth.locks = false) (key : ∀ Q : State → Prop, (∀ (pc : Nat) (ls : Array Slot) (H : Heap) (locs : List Loc), decode cc pc = .ok (.return_, 1) → B H → va_S (pA Y) s.heap H locs → W p l e R s m args below meth c H locs 0 0 Q (F0 m pc ls [])) → W p l e R s m args below meth c s.heap [] 0 0 Q g) : W p l e R s m args below meth c s.heap [] 0 0 (MQ below (TQv B Y) args s 0 0 (pA Y)) g :=
  key _ fun pc ls H locs hd hB hS => W.vret hexec hb hr (fun t ht hW => ⟨⟨rfl, by rw [ht]; exact hB⟩, hS.F ht⟩) hS.2.2 hd hlocks
theorem ti_gen {P : Heap → Prop} (hT : P s.heap) (kk : ∀ (H : Heap) (locs : List Loc), P H → va_S (pA Y) s.heap H locs → W p l e R s m args below meth c H locs 0 0 Q g) : W p l e R s m args below meth c s.heap [] 0 0 Q g := kk _ _ hT va_S.rf
end TIM
def wf1 (b : Bool) : Nat → tv := fun j => if j < 16 then (if j = 3 then .inl (cond b 0 2, 2) else .inl (0, 0)) else .inl (-2147483648, 2147483647)
def RT1 (b : Bool) : Nat → tsp := fun r => match r with
  | 0 => .inl (0, [.inl (0, 0), .inl (2, 2), .inl (0, 0), .inl (0, 0), .inl (0, 0)])
  | 1 => .inl (1, [.inl (0, 0), .inr (.inl 20), .inr (.inl 20), .inr (.inl 20)])
  | 3 => .inl (3, [.inl ((-2147483648), 2147483647), .inl ((-2147483648), 2147483647), .inl ((-2147483648), 2147483647), .inl ((-2147483648), 2147483647), .inl ((-2147483648), 2147483647), .inl ((-2147483648), 2147483647), .inl ((-2147483648), 2147483647), .inl ((-2147483648), 2147483647), .inl ((-2147483648), 2147483647), .inl ((-2147483648), 2147483647)])
  | 5 => .inl (5, [(cond b (.inl (0, 1)) (.inl (0, 0))), .inl ((-2147483648), 2147483647), .inl ((-2147483648), 2147483647), .inr (.inl 27)])
  | 6 => .inl (6, [.inr (.inl 26), .inl (0, 0), .inr (.inl 7), .inl ((-2147483648), 2147483647), .inl (0, 0), .inl (0, 0), .inl ((-2147483648), 2147483647), .inl (0, 1), .inl (0, 1), .inl ((-2147483648), 2147483647), .inl (0, 0), .inl ((-1), (-1))])
  | 7 => .inl (7, [.inl (0, 0), .inl (0, 0), .inl (0, 0), .inl (0, 0), .inl (0, 0), .inr (.inr 0), .inr (.inl 0), .inr (.inl 1), .inr (.inl 21), .inr (.inl 22)])
  | 9 => .inl (9, [.inr (.inl 6), .inr (.inl 7), .inr (.inr 1), .inr (.inl 23), .inr (.inl 24), .inr (.inl 25), .inr (.inr 1), .inr (.inr 1), .inr (.inr 1), .inr (.inr 1), .inr (.inr 1)])
  | 10 => .inl (10, [.inr (.inr 1), .inr (.inl 30), .inr (.inl 31), .inr (.inl 32), .inr (.inl 33), .inr (.inl 34), .inl (0, 0), .inr (.inl 35), .inl (0, 0), .inl (0, 0), .inl (0, 0), .inl (0, 0), .inl ((-2147483648), 2147483647), .inl (0, 0), .inl ((-1), (-1)), .inr (.inl 36), .inr (.inr 0), .inr (.inr 1), .inr (.inr 1), .inr (.inr 1), .inr (.inr 1), .inr (.inr 1), .inr (.inr 1), .inr (.inr 1), .inr (.inr 1), .inr (.inr 1), .inr (.inr 1), .inr (.inr 1), .inr (.inr 1), .inr (.inr 1), .inr (.inr 1), .inr (.inr 1), .inr (.inr 1), .inr (.inr 1), .inr (.inl 37), .inr (.inl 38), .inr (.inl 39), .inr (.inr 1)])
  | 20 => .inr (0, 6, fun _ => .inl ((-2147483648), 2147483647))
  | 21 => .inr (6, 8, fun _ => .inr (.inl 3))
  | 22 => .inr (0, 64, fun _ => .inl ((-2147483648), 2147483647))
  | 23 => .inr (4, 3, fun _ => .inr (.inl 7))
  | 24 => .inr (2, 3, fun _ => (cond b (.inl (0, 1)) (.inl (0, 0))))
  | 25 => .inr (5, 4, fun _ => .inr (.inl 5))
  | 26 => .inr (1, 1600, fun _ => .inl ((-128), 127))
  | 27 => .inr (3, 60, fun _ => .inr (.inr 0))
  | 30 => .inr (0, 178, wf1 b)
  | 31 => .inr (0, 534, fun _ => .inl ((-2147483648), 2147483647))
  | 32 => .inr (3, 3, fun _ => .inr (.inr 0))
  | 33 => .inr (2, 3, fun _ => (cond b (.inl (0, 1)) (.inl (0, 0))))
  | 34 => .inr (1, 1600, fun _ => .inl ((-128), 127))
  | 35 => .inr (0, 5, fun _ => .inl ((-2147483648), 2147483647))
  | 36 => .inr (0, 178, wf1 true)
  | 37 => .inr (0, 4, fun _ => (cond b (.inl ((-1), 60)) (.inl ((-1), (-1)))))
  | 38 => .inr (0, 4, fun _ => .inl ((-2147483648), 2147483647))
  | 39 => .inr (3, 240, fun _ => .inr (.inr 0))
  | _ => .inr (0, 0, fun _ => .inl (0, 0))
theorem wf1_ld (b : Bool) (j : Nat) : ∃ u w : Int, wf1 b j = .inl (u, w) ∧ -2147483648 ≤ u ∧ w ≤ 2147483647 := by
  unfold wf1
  by_cases h : j < 16
  · rw [if_pos h]
    by_cases h3 : j = 3
    · rw [if_pos h3]
      cases b
      · exact ⟨_, _, rfl, by decide, by decide⟩
      · exact ⟨_, _, rfl, by decide, by decide⟩
    · rw [if_neg h3]
      exact ⟨_, _, rfl, by decide, by decide⟩
  · rw [if_neg h]
    exact ⟨_, _, rfl, by decide, by decide⟩
theorem wf1_st (b : Bool) (j : Nat) {lo hi : Int} (h : 16 ≤ j) (hlo : -2147483648 ≤ lo) (hhi : hi ≤ 2147483647) : ∃ u w : Int, wf1 b j = .inl (u, w) ∧ u ≤ lo ∧ hi ≤ w := by
  unfold wf1
  rw [if_neg (by omega)]
  exact ⟨_, _, rfl, hlo, hhi⟩
theorem one_j {f : Nat → tv} (k : Nat) {kI u w lo hi : Int} (hk : (k : Int) = kI) (e : f k = .inl (u, w)) (h1 : lo ≤ u) (h2 : w ≤ hi) : ∀ j : Nat, kI ≤ (j : Int) → (j : Int) ≤ kI → ∃ u w : Int, f j = .inl (u, w) ∧ lo ≤ u ∧ w ≤ hi := by
  intro j a b
  have ej : j = k := by omega
  subst ej
  exact ⟨u, w, e, h1, h2⟩
theorem one_s {f : Nat → tv} (k : Nat) {kI u w lo hi : Int} (hk : (k : Int) = kI) (e : f k = .inl (u, w)) (h1 : u ≤ lo) (h2 : hi ≤ w) : ∀ j : Nat, kI ≤ (j : Int) → (j : Int) ≤ kI → ∃ u w : Int, f j = .inl (u, w) ∧ u ≤ lo ∧ hi ≤ w := by
  intro j a b
  have ej : j = k := by omega
  subst ej
  exact ⟨u, w, e, h1, h2⟩
theorem wf1_z (j : Nat) {lo hi : Int} (h1 : 0 ≤ lo := by decide) (h2 : hi ≤ 0 := by decide) : ∃ u w : Int, wf1 true j = .inl (u, w) ∧ u ≤ lo ∧ hi ≤ w := by
  unfold wf1
  by_cases h : j < 16
  · rw [if_pos h]
    by_cases h3 : j = 3
    · rw [if_pos h3]
      exact ⟨_, _, rfl, by show (0 : Int) ≤ lo; omega, by show hi ≤ 2; omega⟩
    · rw [if_neg h3]
      exact ⟨_, _, rfl, h1, h2⟩
  · rw [if_neg h]
    exact ⟨_, _, rfl, by omega, by omega⟩
theorem wf1_i (b : Bool) (j : Nat) : ∃ u w : Int, wf1 b j = .inl (u, w) := by
  obtain ⟨u, w, h, -⟩ := wf1_ld b j
  exact ⟨u, w, h⟩
theorem va_D1A {A : Nat → Prop} {q : Nat × va_E} (h : A q.1) : va_D A [q] := by
  refine ⟨fun i j x y hi hj _ => ?_, fun k x hk => ?_⟩
  · have h1 : i < 1 := (List.getElem?_eq_some_iff.mp hi).1
    have h2 : j < 1 := (List.getElem?_eq_some_iff.mp hj).1
    omega
  · have hz : k < 1 := (List.getElem?_eq_some_iff.mp hk).1
    rw [show k = 0 by omega] at hk
    cases hk
    exact h
section TID
variable {p : Program} {l : Launch} {e : Env} {R : Room} {s : State} {m : MethodId} {args : Array Value} {below : List Frame} {meth : Method} {c : Code} {H : Heap} {locs : List Loc} {cells slots : Nat} {Q : State → Prop}
variable {cc : ByteArray} {pc : Nat} {ls : Array Slot} {rest : List Value} {D : va_G} {cl : List vw_C} {tys : List (ClassId × FieldType)} {RT : Nat → tsp} {Y : Nat → Option Nat} {a r : Nat} {H0 : Heap}
theorem ti_ialdD (hexec : p.tables.exec = Jvm.exec) (hb : c.code = cc) (hA : ∀ cA ty, tys[0]? = some (cA, ty) → ArrOfT s cA .int) (hT : TI D cl tys RT Y H) (ha : Y a = some r) {n : Nat} {f : Nat → tv} (hR : RT r = .inr (0, n, f)) {i : Int32} {b d : Int} (hix : iv i b d) (hn : (decide (0 ≤ b) && decide (d < (n : Int))) = true) (hu : ∀ j : Nat, ∃ u w : Int, f j = .inl (u, w)) (hdg : decode cc pc = .ok (.iaload, 1))
    (kk : ∀ x : Int32, gm Y (f i.toNatClampNeg) (.int x) → W p l e R s m args below meth c H locs cells slots Q (F0 m (pc + 1) ls (.int x :: rest))) : W p l e R s m args below meth c H locs cells slots Q (F0 m pc ls (.int i :: .ref a :: rest)) := by
  obtain ⟨cA, ty, g, h1, h2, h3⟩ := ti_arr hT ha hR
  obtain ⟨k1, k2, k3⟩ := ti_ix hix hn
  have h4 := h3 _ k1
  have h5 := h4
  obtain ⟨u, w, e1⟩ := hu i.toNatClampNeg
  rw [e1] at h4
  obtain ⟨x, hx, hx2⟩ := h4
  rw [hx] at h5
  exact W.iald (v := .int x) hexec hb h2 (hA _ _ h1 n g) (fun q => by cases q) (by rw [arrV_size]; exact iv_in hix hn) (by rw [arrV_read _ _ k1, hx]) rfl rfl hdg (kk x h5)
theorem ti_iastD (hexec : p.tables.exec = Jvm.exec) (hb : c.code = cc) (hA : ∀ cA ty, tys[0]? = some (cA, ty) → ArrOfT s cA .int) (hT : TI D cl tys RT Y H) (hS0 : va_S (pA Y) H0 H locs) (ha : Y a = some r) {n : Nat} {f : Nat → tv} (hR : RT r = .inr (0, n, f)) {i x : Int32} {b d : Int} (hix : iv i b d) (hn : (decide (0 ≤ b) && decide (d < (n : Int))) = true) (hg : gm Y (f i.toNatClampNeg) (.int x)) (hdg : decode cc pc = .ok (.iastore, 1))
    (kk : ∀ (H1 : Heap) (locs1 : List Loc), TI D cl tys RT Y H1 → va_S (pA Y) H0 H1 locs1 → W p l e R s m args below meth c H1 locs1 cells slots Q (F0 m (pc + 1) ls rest)) : W p l e R s m args below meth c H locs cells slots Q (F0 m pc ls (.int x :: .int i :: .ref a :: rest)) := by
  obtain ⟨cA, ty, g, h1, h2, h3⟩ := ti_arr hT ha hR
  refine W.iast hexec hb h2 (hA _ _ h1 n g) (fun q => by cases q) (by rw [arrV_size]; exact iv_in hix hn) rfl rfl hdg fun H1 e z oq => ?_
  refine kk H1 _ (hT.put ha ?_ oq) (hS0.put z oq ⟨r, ha⟩)
  rw [hR]
  exact ti_ast h1 h3 e hg
end TID
/-! constructors: worlds by their cells -/
def nestL : List Cond := [.methodLinkNest RX9 9 yX6_init RX9, .methodLinkNest RX9 42 yX4_init RX9, .methodLinkNest RX9 49 yX2_init RX9, .methodLinkNest RX9 56 yX8_init RX9, .methodLinkNest RX9 68 yX5_init RX9, .methodLinkNest RX2 11 yX4_init RX9, .methodLinkNest RX7 11 yX0_init RX9, .methodLinkNest RX7 20 yX1_init RX9, .methodLinkNest RX7 35 yX3_init RX9, .methodLinkNest RX8 11 yX2_init RX9, .methodLinkNest RX8 20 yX4_init RX9]
def nwA (U : State) : Prop := (∀ w ∈ nestL, va_Nw w U) ∧ va_AO "SixStroke$Town" U ∧ va_AO "SixStroke$Slot" U ∧ va_AO "SixStroke$Person" U
theorem nwA.warm {s U : State} (hW : s.WarmedH U.vm) (h : nwA s) : nwA U := by
  refine ⟨fun w hw => ?_, va_AO.moved hW.alike h.2.1, va_AO.moved hW.alike h.2.2.1, va_AO.moved hW.alike h.2.2.2⟩
  have q := h.1 w hw
  simp only [nestL, List.mem_cons, List.not_mem_nil, or_false] at hw
  rcases hw with e | e | e | e | e | e | e | e | e | e | e <;> subst e <;> exact va_Nw.warmM hW q
theorem nwA.same {u U : State} (h : u.vm = U.vm) (hu : nwA u) : nwA U := by
  refine ⟨fun w hw => ?_, ?_, ?_, ?_⟩
  · have q := hu.1 w hw
    simp only [nestL, List.mem_cons, List.not_mem_nil, or_false] at hw
    rcases hw with e | e | e | e | e | e | e | e | e | e | e <;> subst e <;> exact va_Nw.same rfl h q
  · exact va_AO.moved (by rw [← h]; exact Vm.Alike.refl _) hu.2.1
  · exact va_AO.moved (by rw [← h]; exact Vm.Alike.refl _) hu.2.2.1
  · exact va_AO.moved (by rw [← h]; exact Vm.Alike.refl _) hu.2.2.2
abbrev NP (D : va_G) (tys : List (ClassId × FieldType)) (H : Heap) (av : List Value) : Array Value → State → Prop := va_Pc av (fun U => U.heap = H ∧ va_K D vwCl tys U ∧ nwA U)
def NQ (A : Nat → Prop) (B : Heap → Prop) : Array Value → State → Outcome → State → Prop := fun _ st oc t => (oc = .returned none ∧ B t.heap) ∧ va_F A st t
theorem np_blind {D : va_G} {tys : List (ClassId × FieldType)} {H : Heap} {av : List Value} : FrameBlind (NP D tys H av) := fun a U g mk q => ⟨q.1, q.2.1, va_K.moved (u := U) (U := U.calling g mk a) (Vm.Alike.refl U.vm) q.2.2.1, nwA.same (u := U) (U := U.calling g mk a) rfl q.2.2.2⟩
section NPR
variable {p : Program} {l : Launch} {e : Env} {R : Room} {s : State} {m : MethodId} {args : Array Value} {below : List Frame} {meth : Method} {c : Code} {H : Heap} {locs : List Loc} {cells slots : Nat} {Q : State → Prop}
variable {cc : ByteArray} {pc : Nat} {ls : Array Slot} {rest : List Value} {D : va_G} {tys : List (ClassId × FieldType)} {a : Nat} {H0 : Heap} {ws : va_W} {A : Nat → Prop}
theorem np_pre {As : List Value} (hK : va_K D vwCl tys s) (hN : nwA s) : PreS s H (NP D tys H As) As := ⟨np_blind, fun _ hU hW => ⟨rfl, hU, va_K.moved hW.alike hK, hN.warm hW⟩⟩
theorem np_preV {b ci q0 : Nat} {As fs : List Value} {C : String} {T : u_T} {N : Nat} (hK : va_K D vwCl tys s) (hN : nwA s) (hP : va_P D vwCl ws H) (hc : vwCl[ci]? = some (C, T, N)) (he : ws[q0]? = some (b, .inr (ci, fs))) : PreV s H C b (NP D tys H (.ref b :: As)) As := ⟨np_blind, va_recv hK hP hc he, fun _ hU hW => ⟨rfl, hU, va_K.moved hW.alike hK, hN.warm hW⟩⟩
variable {st0 : List Value} {aa : Array Value} {mc ms : Nat}
theorem nq_call {A0 A1 : Nat → Prop} {B : Heap → Prop} (hr : va_Run p l e R s m args below meth c H locs cells slots mc ms (F0 m pc ls st0) rest (NQ A1 B aa) A1) (hS : va_S A0 H0 H locs) (hA : ∀ q, A1 q → A0 q)
    (kk : ∀ (H1 : Heap) (locs1 : List Loc), B H1 → va_S A0 H0 H1 locs1 → (∀ q : Nat, q < H.size → ¬ A1 q → H1[q]? = H[q]?) → W p l e R s m args below meth c H1 locs1 (cells + mc) (slots + ms) Q (F0 m (pc + 3) ls rest)) : W p l e R s m args below meth c H locs cells slots Q (F0 m pc ls st0) := by
  intro T hT X
  obtain ⟨v, st₀, t, T', L, h0, X', hL, e1, e2, ⟨⟨hv, hb⟩, hz, hk⟩, st⟩ := hr T hT X
  cases hv
  rw [h0] at hz hk
  obtain ⟨t2, a1, b1⟩ := kk T'.heap (locs ++ L) (by rw [e1]; exact hb) ⟨Nat.le_trans hS.1 (by rw [e1]; exact hz), fun q h1 h2 => by rw [e1, hk q (Nat.lt_of_lt_of_le h1 hS.1) (fun z => h2 (hA q z))]; exact hS.2.1 q h1 h2, fun q hq => by
      rcases List.mem_append.mp hq with h | h
      · exact hS.2.2 q h
      · exact hA _ (hL q h)⟩ (fun q h1 h2 => by rw [e1]; exact hk q h1 h2) T' rfl X'
  exact ⟨t2, st t2 a1, b1⟩
theorem xv_newa (hexec : p.tables.exec = Jvm.exec) (hb : c.code = cc) {atype : ArrayType} (harr : (Cond.arrayClass (newarray.typeOf atype)).before args s = true) {ty : FieldType} (hty : newarray.typeOf atype = ty) (hK : va_K D vwCl tys s) (t0 : Nat) {cA0 : ClassId} (ht : tys[t0]? = some (cA0, ty)) (hP : va_P D vwCl ws H) (hD : va_D A ws) (hS : va_S A H0 H locs) (hA : ∀ q, H0.size ≤ q → A q)
    {n : Int32} {N' : Nat} {a0 : vp_A} (ha : ∀ cA : ClassId, vp_cell cA a0 = arrV cA N' (fun _ => defaultValue ty)) (hn : ¬ n < 0) (hN : n.toNatClampNeg = N') (hbytes : N' * componentBytes ty ≤ 536870912) (hcells : cells + 1 ≤ R.cells) (hslots : slots + N' ≤ R.slots) (hdg : decode cc pc = .ok (.newarray atype, 2))
    (kk : ∀ (q : Nat) (H1 : Heap), va_P D vwCl (ws ++ [(q, .inl (cA0, a0))]) H1 → va_D A (ws ++ [(q, .inl (cA0, a0))]) → va_S A H0 H1 locs →
      W p l e R s m args below meth c H1 locs (cells + 1) (slots + N') Q (F0 m (pc + 2) ls (.ref q :: rest))) : W p l e R s m args below meth c H locs cells slots Q (F0 m pc ls (.int n :: rest)) := by
  refine va_newa hexec hb harr hty hK hP hD hS hA ha hn hN hbytes hcells hslots hdg (fun q cA H1 hK1 hP1 hD1 hS1 => ?_)
  have e1 : (tys ++ [(cA, ty)])[tys.length]? = some (cA, ty) := by simp
  have e2 : cA = cA0 := va_RA_inj (hK1.2 _ _ e1).2 (hK.2 _ _ ht).2
  subst e2
  exact kk q H1 hP1 hD1 hS1
theorem xv_newq (hexec : p.tables.exec = Jvm.exec) (hb : c.code = cc) {own C : String} {index : Nat} (hown : s.vm.findClass own = some m.cls) (hclink : (Cond.classLink own index C).before args s = true) (hover : va_AO C s) (hK : va_K D vwCl tys s) (t0 : Nat) {cA0 : ClassId} (ht : tys[t0]? = some (cA0, .object C)) (hP : va_P D vwCl ws H) (hD : va_D A ws) (hS : va_S A H0 H locs) (hA : ∀ q, H0.size ≤ q → A q)
    {n : Int32} {N' : Nat} (hn : ¬ n < 0) (hN : n.toNatClampNeg = N') (hbytes : N' * 4 ≤ 536870912) (hcells : cells + 1 ≤ R.cells) (hslots : slots + N' ≤ R.slots) (hdg : decode cc pc = .ok (.anewarray index, 3))
    (kk : ∀ (q : Nat) (H1 : Heap), va_P D vwCl (ws ++ [(q, .inl (cA0, N', .inr (.inr (.inr (.inr (fun _ => none))))))]) H1 → va_D A (ws ++ [(q, .inl (cA0, N', .inr (.inr (.inr (.inr (fun _ => none))))))]) → va_S A H0 H1 locs →
      W p l e R s m args below meth c H1 locs (cells + 1) (slots + N') Q (F0 m (pc + 3) ls (.ref q :: rest))) : W p l e R s m args below meth c H locs cells slots Q (F0 m pc ls (.int n :: rest)) := by
  refine va_newq hexec hb hown hclink hover hK hP hD hS hA hn hN hbytes hcells hslots hdg (fun q cA H1 hK1 hP1 hD1 hS1 => ?_)
  have e1 : (tys ++ [(cA, FieldType.object C)])[tys.length]? = some (cA, .object C) := by simp
  have e2 : cA = cA0 := va_RA_inj (hK1.2 _ _ e1).2 (hK.2 _ _ ht).2
  subst e2
  exact kk q H1 hP1 hD1 hS1
end NPR
theorem va_D1 {q : Nat × va_E} {sz : Nat} : va_D (va_A [q] sz) [q] := by
  refine ⟨fun i j x y hi hj _ => ?_, fun k x hk => va_A.in hk⟩
  have h1 : i < 1 := (List.getElem?_eq_some_iff.mp hi).1
  have h2 : j < 1 := (List.getElem?_eq_some_iff.mp hj).1
  omega
def NQi (A : Nat → Prop) (B : Int32 → Prop) : Array Value → State → Outcome → State → Prop := fun _ st oc t => (∃ x : Int32, oc = .returned (some (.int x)) ∧ B x) ∧ va_F A st t
/-- roles of the cells of a list, by their places -/
noncomputable def yl (ws : va_W) (rs : List Nat) (q : Nat) : Option Nat := @dite (Option Nat) (∃ (r : Nat) (k : Nat) (e : va_E), ws[k]? = some (q, e) ∧ rs[k]? = some r) (Classical.propDecidable _) (fun h => some h.choose) (fun _ => none)
theorem yl_get {A : Nat → Prop} {ws : va_W} {rs : List Nat} (hD : va_D A ws) (k : Nat) {q : Nat} {e : va_E} {r : Nat} (hk : ws[k]? = some (q, e)) (hr : rs[k]? = some r) : yl ws rs q = some r := by
  have h : ∃ (r : Nat) (k : Nat) (e : va_E), ws[k]? = some (q, e) ∧ rs[k]? = some r := ⟨r, k, e, hk, hr⟩
  unfold yl
  rw [dif_pos h]
  obtain ⟨k', e', h1, h2⟩ := h.choose_spec
  have hk' : k' = k := hD.1 _ _ _ _ h1 hk rfl
  subst hk'
  exact h2.symm.trans hr
theorem yl_inv {ws : va_W} {rs : List Nat} {q r : Nat} (h : yl ws rs q = some r) : ∃ (k : Nat) (e : va_E), ws[k]? = some (q, e) ∧ rs[k]? = some r := by
  unfold yl at h
  by_cases hh : ∃ (r : Nat) (k : Nat) (e : va_E), ws[k]? = some (q, e) ∧ rs[k]? = some r
  · rw [dif_pos hh] at h
    obtain ⟨k', e', h1, h2⟩ := hh.choose_spec
    exact ⟨k', e', h1, h2.trans h⟩
  · rw [dif_neg hh] at h
    cases h
theorem yl_TI {D : va_G} {cl : List vw_C} {tys : List (ClassId × FieldType)} {RT : Nat → tsp} {ws : va_W} {rs : List Nat} {H : Heap} (h : ∀ (k : Nat) (q : Nat) (e : va_E) (r : Nat), ws[k]? = some (q, e) → rs[k]? = some r → ti_c D cl tys (yl ws rs) (RT r) q H) : TI D cl tys RT (yl ws rs) H := by
  intro a r ha
  obtain ⟨k, e, h1, h2⟩ := yl_inv ha
  exact h k a e r h1 h2
theorem yl_all {P : Nat → Nat → Prop} : ∀ (ws : va_W) (rs : List Nat), (∀ x ∈ ws.zip rs, P x.1.1 x.2) → ∀ (k : Nat) (q : Nat) (e : va_E) (r : Nat), ws[k]? = some (q, e) → rs[k]? = some r → P q r := by
  intro ws rs h k q e r h1 h2
  have h3 : (ws.zip rs)[k]? = some ((q, e), r) := by
    rw [List.getElem?_zip_eq_some]
    exact ⟨h1, h2⟩
  exact h _ (List.mem_of_getElem? h3)
