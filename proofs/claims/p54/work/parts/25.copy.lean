section TICL
variable {p : Program} {l : Launch} {e : Env} {R : Room} {s : State} {m : MethodId} {args : Array Value} {below : List Frame} {meth : Method} {c : Code} {H : Heap} {locs : List Loc} {cells slots : Nat} {Q : State → Prop}
variable {cc : ByteArray} {pc : Nat} {ls : Array Slot} {rest : List Value} {D : va_G} {cl : List vw_C} {tys : List (ClassId × FieldType)} {RT : Nat → tsp} {Y : Nat → Option Nat} {a r : Nat} {H0 : Heap} {ws : List Nat}
theorem ti_longs {n : Nat} {f : Nat → tv} {g : Nat → Value} (hu : ∀ j, j < n → f j = .inr (.inr 0)) (h3 : ∀ j : Nat, j < n → gm Y (f j) (g j)) : ∃ h : Nat → Int64, ∀ j, j < n → g j = .long (h j) := by
  refine ⟨fun j => match g j with
    | .long x => x
    | _ => 0, fun j hj => ?_⟩
  have e := hu j hj
  have h4 := h3 j hj
  rw [e] at h4
  obtain ⟨x, hx⟩ := h4
  show g j = .long (match g j with
    | .long x => x
    | _ => 0)
  rw [hx]
/-- System.arraycopy of longs, any places -/
theorem ti_copyl (hexec : p.tables.exec = Jvm.exec) (hb : c.code = cc) (hml : c.maxLocals = ls.size) {own : String} {index : Nat} (hown : s.vm.findClass own = some m.cls) (hlink : (Cond.methodLink own index arraycopyName).before args s = true) (hnat : (Cond.native arraycopyName).before args s = true) (hstat : (Cond.static arraycopyName).before args s = true) (hini : (Cond.initialized "java/lang/System").before args s = true)
    {c0 : Nat → ClassId} (hK : va_K D cl (tysOf c0) s) (hT : TI D cl (tysOf c0) RT Y H) (hS : va_S (pW Y ws) H0 H locs) {a0 : Nat} (ha0 : Y a0 = some r) (ha : Y a = some r) (hw : ws.contains r = true) {n0 : Nat} {f : Nat → tv} {P : (Nat → Value) → Prop} (hR : RT r = .inr (3, n0, f, P)) (hPt : ∀ g, P g) (hu : ∀ j, j < n0 → f j = .inr (.inr 0)) {sp dp n : Int32} (p1 : 0 ≤ sp.toInt) (p2 : 0 ≤ dp.toInt) (p3 : 0 ≤ n.toInt) (p4 : sp.toInt + n.toInt ≤ (n0 : Int)) (p5 : dp.toInt + n.toInt ≤ (n0 : Int))
    (hframes : 1 ≤ R.frames) (hlocals : (rest.map fun v => v.category).sum + (nativeFrameWords "java/lang/System" "arraycopy" 5 + 11) ≤ R.locals) (hdg : decode cc pc = .ok (.invokestatic index, 3))
    (kk : ∀ (H1 : Heap) (locs1 : List Loc), TI D cl (tysOf c0) RT Y H1 → va_S (pW Y ws) H0 H1 locs1 → W p l e R s m args below meth c H1 locs1 cells slots Q (F0 m (pc + 3) ls rest)) : W p l e R s m args below meth c H locs cells slots Q (F0 m pc ls (.int n :: .int dp :: .ref a :: .int sp :: .ref a0 :: rest)) := by
  obtain ⟨cA, ty, g0, h1, h2, h3, -⟩ := ti_arr hT ha0 hR
  cases h1
  obtain ⟨cB, ty', g1, h1', h2', h3', -⟩ := ti_arr hT ha hR
  cases h1'
  obtain ⟨i0, e0⟩ := ti_longs hu h3
  obtain ⟨i1, e1⟩ := ti_longs hu h3'
  rw [arrV_congr e0] at h2
  rw [arrV_congr e1] at h2'
  have hnn : ¬ n < 0 := fun q => by have := i_lt q; have z : (0 : Int32).toInt = 0 := by decide
                                    omega
  have hs0 : ¬ sp < 0 := fun q => by have := i_lt q; have z : (0 : Int32).toInt = 0 := by decide
                                     omega
  have hd0 : ¬ dp < 0 := fun q => by have := i_lt q; have z : (0 : Int32).toInt = 0 := by decide
                                     omega
  have es : sp.toNatClampNeg = sp.toInt.toNat := rfl
  have ed : dp.toNatClampNeg = dp.toInt.toNat := rfl
  have en : n.toNatClampNeg = n.toInt.toNat := rfl
  intro T hTT X
  obtain ⟨-, k0, hk0, cm0, hkk0⟩ := (hK.2 3 _ rfl).1 n0 (fun j => .long (i0 j))
  obtain ⟨-, k1, hk1, cm1, hkk1⟩ := (hK.2 3 _ rfl).1 n0 (fun j => .long (i1 j))
  obtain ⟨vm', X', step⟩ := X.arraycopy hexec hown hlink hnat hstat hini (src := a0) (dst := a) (cs := vp_cell (c0 3) (n0, .inr (.inl i0))) (cd := vp_cell (c0 3) (n0, .inr (.inl i1))) (srcPos := sp) (destPos := dp) (n := n) (by rw [hTT]; exact h2) (by rw [hTT]; exact h2')
    (fun _ h => by cases h) (fun _ h => by cases h) (fun h => by cases h) (fun h => by cases h) hk0 hk1 hkk0 hkk1 rfl hs0 hd0 hnn
    (by show ¬ _ > ((arrV (c0 3) n0 (fun j => .long (i0 j))).slots.size : Int); rw [arrV_size]; have z : (0 : Int32).toInt = 0 := by decide
        omega)
    (by show ¬ _ > ((arrV (c0 3) n0 (fun j => .long (i1 j))).slots.size : Int); rw [arrV_size]; have z : (0 : Int32).toInt = 0 := by decide
        omega)
    (fun vm₁ _ i hi => by
      have e : (vp_cell (c0 3) (n0, .inr (.inl i0))).slots.getD (sp.toNatClampNeg + i) .null = .long (i0 (sp.toNatClampNeg + i)) := by
        show (arrV (c0 3) n0 (fun j => .long (i0 j))).slots.getD _ _ = _
        rw [Array.getD_eq_getD_getElem?, arrV_read _ _ (by omega)]
        rfl
      refine ⟨?_, ?_⟩
      · rw [e]; rfl
      · rw [e]; exact trivial)
    (g := F0 m pc ls (.int n :: .int dp :: .ref a :: .int sp :: .ref a0 :: rest)) rfl (by rw [hml]) (rest := rest) rfl (by rw [hb]; exact hdg) hframes (by show 2 * 0 + _ + _ ≤ _; omega)
  have ec : copied (vp_cell (c0 3) (n0, .inr (.inl i0))) (vp_cell (c0 3) (n0, .inr (.inl i1))) sp dp n = (vp_cell (c0 3) (n0, .inr (.inl (va_cpy i0 i1 sp.toNatClampNeg dp.toNatClampNeg n.toNatClampNeg)))) := va_copied (fun z => .long z) (c0 3) (c0 3) i0 i1 (by omega)
  rw [ec] at X' step
  have hl : a < H.size := (Array.getElem?_eq_some_iff.mp h2').1
  have oq : ∀ q : Nat, q ≠ a → (H.setIfInBounds a (vp_cell (c0 3) (n0, .inr (.inl (va_cpy i0 i1 sp.toNatClampNeg dp.toNatClampNeg n.toNatClampNeg)))))[q]? = H[q]? := fun q hq => by simp [Array.getElem?_setIfInBounds, Ne.symm hq]
  have hheap : ((T.setVm vm').setCell a (vp_cell (c0 3) (n0, .inr (.inl (va_cpy i0 i1 sp.toNatClampNeg dp.toNatClampNeg n.toNatClampNeg))))).heap = H.setIfInBounds a (vp_cell (c0 3) (n0, .inr (.inl (va_cpy i0 i1 sp.toNatClampNeg dp.toNatClampNeg n.toNatClampNeg)))) := by rw [← hTT]; rfl
  obtain ⟨t, a1, b1⟩ := kk _ _ (hT.put ha (by
      rw [hR]
      refine ⟨c0 3, .long, fun j => .long (va_cpy i0 i1 sp.toNatClampNeg dp.toNatClampNeg n.toNatClampNeg j), rfl, (show (H.setIfInBounds a _)[a]? = some _ by simp [Array.getElem?_setIfInBounds, hl]; rfl), fun j hj => ?_, hPt _⟩
      have hj' : j < n0 := hj
      show gm Y (f j) (.long (va_cpy i0 i1 sp.toNatClampNeg dp.toNatClampNeg n.toNatClampNeg j))
      rw [hu j hj']
      exact ⟨_, rfl⟩) oq) ⟨by simp; exact hS.1, fun q g1 g2 => by
      rw [oq q (fun e => g2 (by rw [e]; exact ⟨r, hw, ha⟩))]
      exact hS.2.1 q g1 g2, fun q hq => by
      rcases List.mem_append.mp hq with h | h
      · exact hS.2.2 q h
      · obtain ⟨z, -, hz⟩ := List.mem_map.mp h
        rw [← hz]
        exact ⟨r, hw, ha⟩⟩ _ hheap X'
  exact ⟨t, step t a1, b1⟩
end TICL
