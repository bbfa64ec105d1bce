/-! method frames over the law's own words -/
def wz (y : MethodName) (b : ByteArray) (n : Nat) (r : Option FieldType) : List Cond := .code y b n r :: wq
theorem wz_all : wq.all goodWord = true := by decide +kernel
theorem wz_good {y : MethodName} {b : ByteArray} {n : Nat} {r : Option FieldType} (h : Cond.code y b n r ∈ wq) : GoodIn wq (wz y b n r) := by
  intro w hw
  rcases List.mem_cons.mp hw with e | e
  · subst e
    exact ⟨h, good_of_word (List.all_eq_true.mp wz_all _ h)⟩
  · exact ⟨e, good_of_word (List.all_eq_true.mp wz_all _ e)⟩
theorem wz_one {w : Cond} (h : w ∈ wq) : w ∈ wq ∧ ((w.onTables && w.keeps) = true ∨ ∃ ty, w = .arrayClass ty) := ⟨h, good_of_word (List.all_eq_true.mp wz_all _ h)⟩
theorem good_V {own C : String} {idx : Nat} {y : MethodName} {b : ByteArray} {n : Nat} {r : Option FieldType} (h1 : Cond.methodLink own idx y ∈ wq) (h2 : Cond.instanceMethod y ∈ wq) (h3 : Cond.selects C y y ∈ wq) (h4 : Cond.initialized C ∈ wq) (h5 : Cond.code y b n r ∈ wq) : GoodIn wq (wsV own idx C y (wz y b n r)) := by
  intro w hw
  rcases List.mem_append.mp hw with e | e
  · simp only [List.mem_cons, List.not_mem_nil, or_false] at e
    rcases e with e | e | e | e <;> subst e
    · exact wz_one h1
    · exact wz_one h2
    · exact wz_one h3
    · exact wz_one h4
  · exact wz_good h5 w e
theorem good_S {own : String} {idx : Nat} {y : MethodName} {b : ByteArray} {n : Nat} {r : Option FieldType} (h1 : Cond.methodLink own idx y ∈ wq) (h2 : Cond.static y ∈ wq) (h4 : Cond.initialized own ∈ wq) (h5 : Cond.code y b n r ∈ wq) : GoodIn wq (wsS own idx y (wz y b n r)) := by
  intro w hw
  rcases List.mem_append.mp hw with e | e
  · simp only [List.mem_cons, List.not_mem_nil, or_false] at e
    rcases e with e | e | e <;> subst e
    · exact wz_one h1
    · exact wz_one h2
    · exact wz_one h4
  · exact wz_good h5 w e
theorem aT0 {D : va_G} {c0 : Nat → ClassId} {s : State} (hK : va_K D vwCl (tysOf c0) s) : ∀ cA ty, (tysOf c0)[0]? = some (cA, ty) → ArrOfT s cA .int := fun _ _ h => by cases h; exact (hK.2 0 _ rfl).1
theorem aT1 {D : va_G} {c0 : Nat → ClassId} {s : State} (hK : va_K D vwCl (tysOf c0) s) : ∀ cA ty, (tysOf c0)[1]? = some (cA, ty) → ArrOfT s cA .byte := fun _ _ h => by cases h; exact (hK.2 1 _ rfl).1
theorem aT2 {D : va_G} {c0 : Nat → ClassId} {s : State} (hK : va_K D vwCl (tysOf c0) s) : ∀ cA ty, (tysOf c0)[2]? = some (cA, ty) → ArrOfT s cA .boolean := fun _ _ h => by cases h; exact (hK.2 2 _ rfl).1
theorem aT3 {D : va_G} {c0 : Nat → ClassId} {s : State} (hK : va_K D vwCl (tysOf c0) s) : ∀ cA ty, (tysOf c0)[3]? = some (cA, ty) → ArrOfT s cA .long := fun _ _ h => by cases h; exact (hK.2 3 _ rfl).1
theorem aT4 {D : va_G} {c0 : Nat → ClassId} {s : State} (hK : va_K D vwCl (tysOf c0) s) : ∀ cA ty, (tysOf c0)[4]? = some (cA, ty) → ArrOfT s cA (.object "SixStroke$Town") := fun _ _ h => by cases h; exact (hK.2 4 _ rfl).1
theorem aT5 {D : va_G} {c0 : Nat → ClassId} {s : State} (hK : va_K D vwCl (tysOf c0) s) : ∀ cA ty, (tysOf c0)[5]? = some (cA, ty) → ArrOfT s cA (.object "SixStroke$Slot") := fun _ _ h => by cases h; exact (hK.2 5 _ rfl).1
theorem aT6 {D : va_G} {c0 : Nat → ClassId} {s : State} (hK : va_K D vwCl (tysOf c0) s) : ∀ cA ty, (tysOf c0)[6]? = some (cA, ty) → ArrOfT s cA (.object "SixStroke$Person") := fun _ _ h => by cases h; exact (hK.2 6 _ rfl).1
section TIM
variable {p : Program} {l : Launch} {e : Env} {R : Room} {s : State} {m : MethodId} {args : Array Value} {below : List Frame} {meth : Method} {c : Code} {Q : State → Prop} {cc : ByteArray} {Y : Nat → Option Nat} {g : JFrame} {ws : List Nat}
theorem ti_mi {B : Int32 → Heap → Prop} (hexec : p.tables.exec = Jvm.exec) (hb : c.code = cc) (hr : meth.sig.returnType = some .int) (hlocks : meth.locks = false) (key : ∀ Q : State → Prop, (∀ (pc : Nat) (ls : Array Slot) (H : Heap) (locs : List Loc) (x : Int32), decode cc pc = .ok (.ireturn, 1) → B x H → va_S (pW Y ws) s.heap H locs → W p l e R s m args below meth c H locs 0 0 Q (F0 m pc ls [.int x])) → W p l e R s m args below meth c s.heap [] 0 0 Q g) : W p l e R s m args below meth c s.heap [] 0 0 (MQ below (TQi B Y ws) args s 0 0 (pW Y ws)) g :=
  key _ fun pc ls H locs x hd hB hS => W.iret hexec hb hr (fun t ht hW => ⟨⟨x, rfl, by rw [ht]; exact hB⟩, hS.F ht⟩) hS.2.2 hd hlocks
theorem ti_mz {B : Int32 → Heap → Prop} (hexec : p.tables.exec = Jvm.exec) (hb : c.code = cc) (hr : meth.sig.returnType = some .boolean) (hlocks : meth.locks = false) (key : ∀ Q : State → Prop, (∀ (pc : Nat) (ls : Array Slot) (H : Heap) (locs : List Loc) (x : Int32), decode cc pc = .ok (.ireturn, 1) → iv x 0 1 → B x H → va_S (pW Y ws) s.heap H locs → W p l e R s m args below meth c H locs 0 0 Q (F0 m pc ls [.int x])) → W p l e R s m args below meth c s.heap [] 0 0 Q g) : W p l e R s m args below meth c s.heap [] 0 0 (MQ below (TQi B Y ws) args s 0 0 (pW Y ws)) g :=
  key _ fun pc ls H locs x hd h01 hB hS => W.zret hexec hb hr (ti_nz h01).1 (fun t ht hW => ⟨⟨x, rfl, by rw [ht]; exact hB⟩, hS.F ht⟩) hS.2.2 hd hlocks
theorem ti_mv {B : Heap → Prop} (hexec : p.tables.exec = Jvm.exec) (hb : c.code = cc) (hr : meth.sig.returnType = none) (hlocks : meth.locks = false) (key : ∀ Q : State → Prop, (∀ (pc : Nat) (ls : Array Slot) (H : Heap) (locs : List Loc), decode cc pc = .ok (.return_, 1) → B H → va_S (pW Y ws) s.heap H locs → W p l e R s m args below meth c H locs 0 0 Q (F0 m pc ls [])) → W p l e R s m args below meth c s.heap [] 0 0 Q g) : W p l e R s m args below meth c s.heap [] 0 0 (MQ below (TQv B Y ws) args s 0 0 (pW Y ws)) g :=
  key _ fun pc ls H locs hd hB hS => W.vret hexec hb hr (fun t ht hW => ⟨⟨rfl, by rw [ht]; exact hB⟩, hS.F ht⟩) hS.2.2 hd hlocks
theorem ti_ml {B : Int64 → Heap → Prop} (hexec : p.tables.exec = Jvm.exec) (hb : c.code = cc) (hr : meth.sig.returnType = some .long) (hlocks : meth.locks = false) (key : ∀ Q : State → Prop, (∀ (pc : Nat) (ls : Array Slot) (H : Heap) (locs : List Loc) (x : Int64), decode cc pc = .ok (.lreturn, 1) → B x H → va_S (pW Y ws) s.heap H locs → W p l e R s m args below meth c H locs 0 0 Q (F0 m pc ls [.long x])) → W p l e R s m args below meth c s.heap [] 0 0 Q g) : W p l e R s m args below meth c s.heap [] 0 0 (MQ below (TQl B Y ws) args s 0 0 (pW Y ws)) g :=
  key _ fun pc ls H locs x hd hB hS => W.lret hexec hb hr (fun t ht hW => ⟨⟨x, rfl, by rw [ht]; exact hB⟩, hS.F ht⟩) hS.2.2 hd hlocks
theorem ti_mr {B : Nat → Heap → Prop} {C : String} (hexec : p.tables.exec = Jvm.exec) (hb : c.code = cc) (hr : meth.sig.returnType = some (.object C)) (hlocks : meth.locks = false) (key : ∀ Q : State → Prop, (∀ (pc : Nat) (ls : Array Slot) (H : Heap) (locs : List Loc) (x : Nat), decode cc pc = .ok (.areturn, 1) → B x H → va_S (pW Y ws) s.heap H locs → W p l e R s m args below meth c H locs 0 0 Q (F0 m pc ls [.ref x])) → W p l e R s m args below meth c s.heap [] 0 0 Q g) : W p l e R s m args below meth c s.heap [] 0 0 (MQ below (TQr B Y ws) args s 0 0 (pW Y ws)) g :=
  key _ fun pc ls H locs x hd hB hS => W.aret hexec hb hr (Or.inl ⟨_, rfl⟩) (Or.inr ⟨_, rfl⟩) (fun t ht hW => ⟨⟨x, rfl, by rw [ht]; exact hB⟩, hS.F ht⟩) hS.2.2 hd hlocks
theorem ti_gen {P : Heap → Prop} (hT : P s.heap) (kk : ∀ (H : Heap) (locs : List Loc), P H → va_S (pW Y ws) s.heap H locs → W p l e R s m args below meth c H locs 0 0 Q g) : W p l e R s m args below meth c s.heap [] 0 0 Q g := kk _ _ hT va_S.rf
end TIM
def wfg (j : Nat) : tv := if j = 1 then .inl (-2147483648, 100000) else if j = 7 then .inl (0, 8) else if j = 9 then .inl (0, 6) else if j < 16 then .inl (-2147483648, 2147483647) else if j < 96 then (if (j - 16) % 10 = 0 then .inl (-2147483648, 100000) else .inl (-2147483648, 2147483647)) else if j < 160 then .inl (1, 30) else if (j - 160) % 3 = 2 then .inl (-2147483648, 2147483647) else .inl (0, 7)
def RTg (ν : Nat → Nat) : Nat → tsp := fun r => match r with
  | 0 => .inl (0, [.inl ((-2147483648), 2147483647), .inl ((-2147483648), 2147483647), .inl ((-2147483648), 2147483647), .inl (0, 1), .inl ((-2147483648), 2147483647)], fun _ => True)
  | 1 => .inl (1, [.inl (0, 6), .inr (.inl 20), .inr (.inl 20), .inr (.inl 28)], fun _ => True)
  | 2 => .inl (2, [.inr (.inl 4), .inr (.inl 29), .inl (0, 7), .inl (0, 1), .inl ((-2147483648), 2147483647), .inl ((-2147483648), 2147483647), .inl ((-2147483648), 2147483647), .inl ((-2147483648), 2147483647), .inl ((-1), 7)], mindP)
  | 3 => .inl (3, [.inl ((-2147483648), 100000), .inl ((-2147483648), 2147483647), .inl ((-2147483648), 2147483647), .inl ((-2147483648), 2147483647), .inl ((-2147483648), 2147483647), .inl ((-2147483648), 2147483647), .inl ((-2147483648), 2147483647), .inl ((-2147483648), 2147483647), .inl ((-2147483648), 2147483647), .inl ((-2147483648), 2147483647)], fun _ => True)
  | 4 => .inl (4, [.inl (0, 8), .inl ((-2147483648), 2147483647), .inl ((-2147483648), 2147483647), .inr (.inl 29), .inr (.inl 29), .inl ((-2147483648), 2147483647), .inl ((-2147483648), 2147483647), .inl ((-2147483648), 2147483647), .inl ((-2147483648), 2147483647), .inl ((-2147483648), 2147483647), .inl ((-2147483648), 2147483647)], fun _ => True)
  | 5 => .inl (5, [.inl (0, 1), .inl ((-2147483648), 2147483647), .inl (0, 60), .inr (.inl 27)], fun _ => True)
  | 6 => .inl (6, [.inr (.inl 26), .inl (0, 1600), .inr (.inl 7), .inl ((-2147483648), 2147483647), .inl (0, 1600), .inl (0, 1600), .inl ((-2147483648), 100000), .inl (0, 1), .inl (0, 1), .inl ((-2147483648), 2147483647), .inl ((-2147483648), 2147483647), .inl ((-2147483648), 2147483647)], fun _ => True)
  | 7 => .inl (7, [.inl ((-2147483648), 100000), .inl (0, 8), .inl ((-2147483648), 2147483647), .inl ((-2147483648), 2147483647), .inl ((-2147483648), 2147483647), .inr (.inr 0), .inr (.inl 0), .inr (.inl 1), .inr (.inl 21), .inr (.inl 22)], fun _ => True)
  | 8 => .inl (8, [.inr (.inl 2), .inr (.inl 4), .inr (.inl 29), .inl ((-2147483648), 2147483647), .inl ((-2147483648), 2147483647)], fun _ => True)
  | 9 => .inl (9, [.inr (.inl 6), .inr (.inl 7), .inr (.inl 23), .inr (.inl 23), .inr (.inl 24), .inr (.inl 25), .inr (.inl 4), .inr (.inl 2), .inr (.inl 8), .inr (.inl 29), .inr (.inl 40)], fun _ => True)
  | 10 => .inl (10, [.inl ((-2147483648), 2147483647), .inr (.inl 30), .inr (.inl 31), .inr (.inl 32), .inr (.inl 33), .inr (.inl 34), .inl (0, 1600), .inr (.inl 35), .inl (0, 1600), .inl (0, 1600), .inl (0, 1600), .inl (0, 4), .inl ((-2147483648), 99999), .inl (0, 3), .inl ((-2147483648), 2147483647), .inr (.inl 36), .inr (.inr 0), .inr (.inl 41), .inr (.inl 42), .inl ((ν 5 : Int), (ν 5 : Int)), .inr (.inl 29), .inr (.inl 29), .inl ((-2147483648), 2147483647), .inl ((-2147483648), 2147483647), .inr (.inl 43), .inr (.inl 29), .inr (.inl 29), .inl ((-2147483648), 2147483647), .inr (.inl 46), .inr (.inl 29), .inr (.inl 29), .inr (.inl 44), .inr (.inl 40), .inr (.inl 40), .inr (.inl 37), .inr (.inl 38), .inr (.inl 39), .inr (.inl 27)], fun _ => True)
  | 20 => .inr (0, 6, fun _ => .inl (0, 7), fun _ => True)
  | 21 => .inr (6, 8, fun _ => .inr (.inl 3), fun _ => True)
  | 22 => .inr (0, 64, fun _ => .inl ((-2147483648), 2147483647), fun _ => True)
  | 23 => .inr (4, 3, fun _ => .inr (.inl 7), fun _ => True)
  | 24 => .inr (2, 3, fun _ => .inl (0, 1), fun _ => True)
  | 25 => .inr (5, 4, fun _ => .inr (.inl 5), fun _ => True)
  | 26 => .inr (1, 1600, fun _ => .inl ((-128), 127), fun _ => True)
  | 27 => .inr (3, 60, fun _ => .inr (.inr 0), fun _ => True)
  | 28 => .inr (0, 6, fun _ => .inl ((-2147483648), 2147483647), fun _ => True)
  | 29 => .inr (0, 8, fun _ => .inl ((-2147483648), 2147483647), fun _ => True)
  | 30 => .inr (0, 178, wfg, fun _ => True)
  | 31 => .inr (0, 534, fun j => if j % 178 < ν (j / 178) then wfg (j % 178) else .inl (-2147483648, 2147483647), fun _ => True)
  | 32 => .inr (3, 3, fun _ => .inr (.inr 0), fun _ => True)
  | 33 => .inr (2, 3, fun j => if ν j = 178 then .inl (1, 1) else .inl (0, 0), fun _ => True)
  | 34 => .inr (1, 1600, fun _ => .inl ((-128), 127), fun _ => True)
  | 35 => .inr (0, 5, fun _ => .inl ((-2147483648), 2147483647), fun _ => True)
  | 36 => .inr (0, 178, fun j => if 96 ≤ j ∧ j < 160 ∧ 96 + ν 4 ≤ j then .inl (-2147483648, 2147483647) else wfg j, fun _ => True)
  | 37 => .inr (0, 4, fun j => .inl ((ν (6 + j) : Int) - 1, (ν (6 + j) : Int) - 1), fun _ => True)
  | 38 => .inr (0, 4, fun _ => .inl (0, 3), fun _ => True)
  | 39 => .inr (3, 240, fun _ => .inr (.inr 0), fun _ => True)
  | 40 => .inr (0, 4, fun _ => .inl ((-2147483648), 2147483647), fun _ => True)
  | 41 => .inr (0, 712, fun j => if j < ν 3 then wfg j else .inl (-2147483648, 2147483647), fun _ => True)
  | 42 => .inr (3, 4, fun _ => .inr (.inr 0), fun _ => True)
  | 43 => .inr (0, 5, fun j => if j = 4 then .inl (-1, 7) else .inl (-2147483648, 2147483647), bestP)
  | 44 => .inr (0, 30, fun _ => .inl ((-2147483648), 2147483647), fun _ => True)
  | 46 => .inr (0, 5, fun j => if j = 4 then .inl (-1, 7) else .inl (-2147483648, 2147483647), fun _ => True)
  | _ => .inr (0, 0, fun _ => .inl (0, 0), fun _ => True)
theorem va_at_fun {D : va_G} {cl : List vw_C} {a ci k : Nat} {fs fs' : List Value} {H : Heap} {q : vw_C} (h : va_at D cl (a, .inr (ci, fs)) H) (h' : va_at D cl (a, .inr (ci, fs')) H) (hc : cl[ci]? = some q) (hk : k < q.2.2) : vp_V fs k = vp_V fs' k := by
  obtain ⟨r, h1, cell, q1, -, -, q4⟩ := h
  obtain ⟨r', h1', cell', q1', -, -, q4'⟩ := h'
  cases h1.symm.trans hc
  cases h1'.symm.trans hc
  cases q1.symm.trans q1'
  exact Option.some.inj ((q4 k hk).symm.trans (q4' k hk))
theorem fi_of {D : va_G} {cl : List vw_C} {a ci k : Nat} {fs : List Value} {v : Value} {H : Heap} {q : vw_C} (h : va_at D cl (a, .inr (ci, fs)) H) (hm : fi D cl a ci k v H) (hc : cl[ci]? = some q) (hk : k < q.2.2) (hl : fs.length = q.2.2) : fs[k]? = some v := by
  obtain ⟨fs', g1, g2, g3⟩ := hm
  have e := va_at_fun h g1 hc hk
  have h1 : k < fs.length := by rw [hl]; exact hk
  rw [List.getElem?_eq_getElem h1]
  congr 1
  have e1 : vp_V fs k = fs[k] := by simp [vp_V, List.getD_eq_getElem?_getD, List.getElem?_eq_getElem h1]
  have e2 : vp_V fs' k = v := by simp [vp_V, List.getD_eq_getElem?_getD, g2]
  rw [← e1, e, e2]
theorem mind_rel {D : va_G} {c0 : Nat → ClassId} {ν : Nat → Nat} {Y : Nat → Option Nat} {H : Heap} {a : Nat} {g t : Int32} (hT : TI D vwCl (tysOf c0) (RTg ν) Y H) (ha : Y a = some 2) (h7 : fi D vwCl a 2 7 (.int g) H) (h8 : fi D vwCl a 2 8 (.int t) H) : 1 ≤ g.toInt → 0 ≤ t.toInt := by
  obtain ⟨fs, h1, h2, -, h4⟩ := ti_obj hT ha rfl
  exact h4 g t (fi_of h1 h7 rfl (by decide) h2) (fi_of h1 h8 rfl (by decide) h2)
theorem mind_put {D : va_G} {c0 : Nat → ClassId} {ν : Nat → Nat} {Y : Nat → Option Nat} {H H1 H2 : Heap} {a : Nat} {g t : Int32} {fs : List Value} (hT : TI D vwCl (tysOf c0) (RTg ν) Y H) (ha : Y a = some 2) (h0 : va_at D vwCl (a, .inr (2, fs)) H) (hln : fs.length = 9) (h2 : va_at D vwCl (a, .inr (2, (fs.set 7 (.int g)).set 8 (.int t))) H2) (o1 : ∀ q : Nat, q ≠ a → H1[q]? = H[q]?) (o2 : ∀ q : Nat, q ≠ a → H2[q]? = H1[q]?) (ht : iv t (-1) 7) (hr : 1 ≤ g.toInt → 0 ≤ t.toInt) : TI D vwCl (tysOf c0) (RTg ν) Y H2 := by
  refine hT.put ha ?_ (fun q hq => (o2 q hq).trans (o1 q hq))
  obtain ⟨fs', k1, k2, k3, -⟩ := ti_obj hT ha rfl
  have k2 : fs'.length = 9 := k2
  have e : fs' = fs := by
    refine List.ext_getElem? (fun k => ?_)
    by_cases hk : k < 9
    · have h := va_at_fun k1 h0 (q := (RX2, TX2, 9)) rfl hk
      have l1 : k < fs'.length := by omega
      have l2 : k < fs.length := by omega
      rw [List.getElem?_eq_getElem l1, List.getElem?_eq_getElem l2]
      congr 1
      have e1 : vp_V fs' k = fs'[k] := by simp [vp_V, List.getD_eq_getElem?_getD, List.getElem?_eq_getElem l1]
      have e2 : vp_V fs k = fs[k] := by simp [vp_V, List.getD_eq_getElem?_getD, List.getElem?_eq_getElem l2]
      rw [← e1, h, e2]
    · rw [List.getElem?_eq_none (by omega), List.getElem?_eq_none (by omega)]
  subst e
  refine ⟨_, h2, by rw [List.length_set, List.length_set]; exact k2, fun k ty hk => ?_, ?_⟩
  · by_cases e8 : k = 8
    · subst e8
      refine ⟨.int t, by rw [List.getElem?_set_self (by rw [List.length_set]; omega)], ?_⟩
      cases hk
      exact ⟨t, rfl, ht⟩
    · by_cases e7 : k = 7
      · subst e7
        refine ⟨.int g, by rw [List.getElem?_set_ne (by decide), List.getElem?_set_self (by omega)], ?_⟩
        cases hk
        exact ⟨g, rfl, iv_top g⟩
      · obtain ⟨v, v1, v2⟩ := k3 k ty hk
        exact ⟨v, by rw [List.getElem?_set_ne (Ne.symm e8), List.getElem?_set_ne (Ne.symm e7)]; exact v1, v2⟩
  · intro g' t' e1 e2
    rw [List.getElem?_set_ne (by decide), List.getElem?_set_self (by omega)] at e1
    rw [List.getElem?_set_self (by rw [List.length_set]; omega)] at e2
    cases e1
    cases e2
    exact hr
