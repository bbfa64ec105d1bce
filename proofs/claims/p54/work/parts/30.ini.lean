/-! constructors: worlds by their cells -/
def nestL : List Cond := [.methodLinkNest RX9 9 yX6_init RX9, .methodLinkNest RX9 42 yX4_init RX9, .methodLinkNest RX9 49 yX2_init RX9, .methodLinkNest RX9 56 yX8_init RX9, .methodLinkNest RX9 68 yX5_init RX9, .methodLinkNest RX2 11 yX4_init RX9, .methodLinkNest RX7 11 yX0_init RX9, .methodLinkNest RX7 20 yX1_init RX9, .methodLinkNest RX7 35 yX3_init RX9, .methodLinkNest RX8 11 yX2_init RX9, .methodLinkNest RX8 20 yX4_init RX9]
def nwA (U : State) : Prop := (∀ w ∈ nestL, va_Nw w U) ∧ va_AO "SixStroke$Town" U ∧ va_AO "SixStroke$Slot" U ∧ va_AO "SixStroke$Person" U
theorem nwA.warm {s U : State} (hW : s.WarmedH U.vm) (h : nwA s) : nwA U := by
  refine ⟨fun w hw => ?_, va_AO.moved hW.alike h.2.1, va_AO.moved hW.alike h.2.2.1, va_AO.moved hW.alike h.2.2.2⟩
  have q := h.1 w hw
  simp only [nestL, List.mem_cons, List.not_mem_nil, or_false] at hw
  rcases hw with e | e | e | e | e | e | e | e | e | e | e <;> subst e <;> exact va_Nw.warmM hW q
theorem nwA.same {u U : State} (h : u.vm = U.vm) (hu : nwA u) : nwA U := by
  refine ⟨fun w hw => ?_, ?_, ?_, ?_⟩
  · have q := hu.1 w hw
    simp only [nestL, List.mem_cons, List.not_mem_nil, or_false] at hw
    rcases hw with e | e | e | e | e | e | e | e | e | e | e <;> subst e <;> exact va_Nw.same rfl h q
  · exact va_AO.moved (by rw [← h]; exact Vm.Alike.refl _) hu.2.1
  · exact va_AO.moved (by rw [← h]; exact Vm.Alike.refl _) hu.2.2.1
  · exact va_AO.moved (by rw [← h]; exact Vm.Alike.refl _) hu.2.2.2
abbrev NP (D : va_G) (tys : List (ClassId × FieldType)) (H : Heap) (av : List Value) : Array Value → State → Prop := va_Pc av (fun U => U.heap = H ∧ va_K D vwCl tys U ∧ nwA U)
def NQ (A : Nat → Prop) (B : Heap → Prop) : Array Value → State → Outcome → State → Prop := fun _ st oc t => (oc = .returned none ∧ B t.heap) ∧ va_F A st t
theorem np_blind {D : va_G} {tys : List (ClassId × FieldType)} {H : Heap} {av : List Value} : FrameBlind (NP D tys H av) := fun a U g mk q => ⟨q.1, q.2.1, va_K.moved (u := U) (U := U.calling g mk a) (Vm.Alike.refl U.vm) q.2.2.1, nwA.same (u := U) (U := U.calling g mk a) rfl q.2.2.2⟩
section NPR
variable {p : Program} {l : Launch} {e : Env} {R : Room} {s : State} {m : MethodId} {args : Array Value} {below : List Frame} {meth : Method} {c : Code} {H : Heap} {locs : List Loc} {cells slots : Nat} {Q : State → Prop}
variable {cc : ByteArray} {pc : Nat} {ls : Array Slot} {rest : List Value} {D : va_G} {tys : List (ClassId × FieldType)} {a : Nat} {H0 : Heap} {ws : va_W} {A : Nat → Prop}
theorem np_pre {As : List Value} (hK : va_K D vwCl tys s) (hN : nwA s) : PreS s H (NP D tys H As) As := ⟨np_blind, fun _ hU hW => ⟨rfl, hU, va_K.moved hW.alike hK, hN.warm hW⟩⟩
theorem np_preV {b ci q0 : Nat} {As fs : List Value} {C : String} {T : u_T} {N : Nat} (hK : va_K D vwCl tys s) (hN : nwA s) (hP : va_P D vwCl ws H) (hc : vwCl[ci]? = some (C, T, N)) (he : ws[q0]? = some (b, .inr (ci, fs))) : PreV s H C b (NP D tys H (.ref b :: As)) As := ⟨np_blind, va_recv hK hP hc he, fun _ hU hW => ⟨rfl, hU, va_K.moved hW.alike hK, hN.warm hW⟩⟩
variable {st0 : List Value} {aa : Array Value} {mc ms : Nat}
theorem nq_call {A0 A1 : Nat → Prop} {B : Heap → Prop} (hr : va_Run p l e R s m args below meth c H locs cells slots mc ms (F0 m pc ls st0) rest (NQ A1 B aa) A1) (hS : va_S A0 H0 H locs) (hA : ∀ q, A1 q → A0 q)
    (kk : ∀ (H1 : Heap) (locs1 : List Loc), B H1 → va_S A0 H0 H1 locs1 → (∀ q : Nat, q < H.size → ¬ A1 q → H1[q]? = H[q]?) → W p l e R s m args below meth c H1 locs1 (cells + mc) (slots + ms) Q (F0 m (pc + 3) ls rest)) : W p l e R s m args below meth c H locs cells slots Q (F0 m pc ls st0) := by
  intro T hT X
  obtain ⟨v, st₀, t, T', L, h0, X', hL, e1, e2, ⟨⟨hv, hb⟩, hz, hk⟩, st⟩ := hr T hT X
  cases hv
  rw [h0] at hz hk
  obtain ⟨t2, a1, b1⟩ := kk T'.heap (locs ++ L) (by rw [e1]; exact hb) ⟨Nat.le_trans hS.1 (by rw [e1]; exact hz), fun q h1 h2 => by rw [e1, hk q (Nat.lt_of_lt_of_le h1 hS.1) (fun z => h2 (hA q z))]; exact hS.2.1 q h1 h2, fun q hq => by
      rcases List.mem_append.mp hq with h | h
      · exact hS.2.2 q h
      · exact hA _ (hL q h)⟩ (fun q h1 h2 => by rw [e1]; exact hk q h1 h2) T' rfl X'
  exact ⟨t2, st t2 a1, b1⟩
theorem xv_newa (hexec : p.tables.exec = Jvm.exec) (hb : c.code = cc) {atype : ArrayType} (harr : (Cond.arrayClass (newarray.typeOf atype)).before args s = true) {ty : FieldType} (hty : newarray.typeOf atype = ty) (hK : va_K D vwCl tys s) (t0 : Nat) {cA0 : ClassId} (ht : tys[t0]? = some (cA0, ty)) (hP : va_P D vwCl ws H) (hD : va_D A ws) (hS : va_S A H0 H locs) (hA : ∀ q, H0.size ≤ q → A q)
    {n : Int32} {N' : Nat} {a0 : vp_A} (ha : ∀ cA : ClassId, vp_cell cA a0 = arrV cA N' (fun _ => defaultValue ty)) (hn : ¬ n < 0) (hN : n.toNatClampNeg = N') (hbytes : N' * componentBytes ty ≤ 536870912) (hcells : cells + 1 ≤ R.cells) (hslots : slots + N' ≤ R.slots) (hdg : decode cc pc = .ok (.newarray atype, 2))
    (kk : ∀ (q : Nat) (H1 : Heap), va_P D vwCl (ws ++ [(q, .inl (cA0, a0))]) H1 → va_D A (ws ++ [(q, .inl (cA0, a0))]) → va_S A H0 H1 locs →
      W p l e R s m args below meth c H1 locs (cells + 1) (slots + N') Q (F0 m (pc + 2) ls (.ref q :: rest))) : W p l e R s m args below meth c H locs cells slots Q (F0 m pc ls (.int n :: rest)) := by
  refine va_newa hexec hb harr hty hK hP hD hS hA ha hn hN hbytes hcells hslots hdg (fun q cA H1 hK1 hP1 hD1 hS1 => ?_)
  have e1 : (tys ++ [(cA, ty)])[tys.length]? = some (cA, ty) := by simp
  have e2 : cA = cA0 := va_RA_inj (hK1.2 _ _ e1).2 (hK.2 _ _ ht).2
  subst e2
  exact kk q H1 hP1 hD1 hS1
theorem xv_newq (hexec : p.tables.exec = Jvm.exec) (hb : c.code = cc) {own C : String} {index : Nat} (hown : s.vm.findClass own = some m.cls) (hclink : (Cond.classLink own index C).before args s = true) (hover : va_AO C s) (hK : va_K D vwCl tys s) (t0 : Nat) {cA0 : ClassId} (ht : tys[t0]? = some (cA0, .object C)) (hP : va_P D vwCl ws H) (hD : va_D A ws) (hS : va_S A H0 H locs) (hA : ∀ q, H0.size ≤ q → A q)
    {n : Int32} {N' : Nat} (hn : ¬ n < 0) (hN : n.toNatClampNeg = N') (hbytes : N' * 4 ≤ 536870912) (hcells : cells + 1 ≤ R.cells) (hslots : slots + N' ≤ R.slots) (hdg : decode cc pc = .ok (.anewarray index, 3))
    (kk : ∀ (q : Nat) (H1 : Heap), va_P D vwCl (ws ++ [(q, .inl (cA0, N', .inr (.inr (.inr (.inr (fun _ => none))))))]) H1 → va_D A (ws ++ [(q, .inl (cA0, N', .inr (.inr (.inr (.inr (fun _ => none))))))]) → va_S A H0 H1 locs →
      W p l e R s m args below meth c H1 locs (cells + 1) (slots + N') Q (F0 m (pc + 3) ls (.ref q :: rest))) : W p l e R s m args below meth c H locs cells slots Q (F0 m pc ls (.int n :: rest)) := by
  refine va_newq hexec hb hown hclink hover hK hP hD hS hA hn hN hbytes hcells hslots hdg (fun q cA H1 hK1 hP1 hD1 hS1 => ?_)
  have e1 : (tys ++ [(cA, FieldType.object C)])[tys.length]? = some (cA, .object C) := by simp
  have e2 : cA = cA0 := va_RA_inj (hK1.2 _ _ e1).2 (hK.2 _ _ ht).2
  subst e2
  exact kk q H1 hP1 hD1 hS1
end NPR
theorem va_D1 {q : Nat × va_E} {sz : Nat} : va_D (va_A [q] sz) [q] := by
  refine ⟨fun i j x y hi hj _ => ?_, fun k x hk => va_A.in hk⟩
  have h1 : i < 1 := (List.getElem?_eq_some_iff.mp hi).1
  have h2 : j < 1 := (List.getElem?_eq_some_iff.mp hj).1
  omega
def NQi (A : Nat → Prop) (B : Int32 → Prop) : Array Value → State → Outcome → State → Prop := fun _ st oc t => (∃ x : Int32, oc = .returned (some (.int x)) ∧ B x) ∧ va_F A st t
/-- roles of the cells of a list, by their places -/
noncomputable def yl (ws : va_W) (rs : List Nat) (q : Nat) : Option Nat := @dite (Option Nat) (∃ (r : Nat) (k : Nat) (e : va_E), ws[k]? = some (q, e) ∧ rs[k]? = some r) (Classical.propDecidable _) (fun h => some h.choose) (fun _ => none)
theorem yl_get {A : Nat → Prop} {ws : va_W} {rs : List Nat} (hD : va_D A ws) (k : Nat) {q : Nat} {e : va_E} {r : Nat} (hk : ws[k]? = some (q, e)) (hr : rs[k]? = some r) : yl ws rs q = some r := by
  have h : ∃ (r : Nat) (k : Nat) (e : va_E), ws[k]? = some (q, e) ∧ rs[k]? = some r := ⟨r, k, e, hk, hr⟩
  unfold yl
  rw [dif_pos h]
  obtain ⟨k', e', h1, h2⟩ := h.choose_spec
  have hk' : k' = k := hD.1 _ _ _ _ h1 hk rfl
  subst hk'
  exact h2.symm.trans hr
theorem yl_inv {ws : va_W} {rs : List Nat} {q r : Nat} (h : yl ws rs q = some r) : ∃ (k : Nat) (e : va_E), ws[k]? = some (q, e) ∧ rs[k]? = some r := by
  unfold yl at h
  by_cases hh : ∃ (r : Nat) (k : Nat) (e : va_E), ws[k]? = some (q, e) ∧ rs[k]? = some r
  · rw [dif_pos hh] at h
    obtain ⟨k', e', h1, h2⟩ := hh.choose_spec
    exact ⟨k', e', h1, h2.trans h⟩
  · rw [dif_neg hh] at h
    cases h
theorem yl_TI {D : va_G} {cl : List vw_C} {tys : List (ClassId × FieldType)} {RT : Nat → tsp} {ws : va_W} {rs : List Nat} {H : Heap} (h : ∀ (k : Nat) (q : Nat) (e : va_E) (r : Nat), ws[k]? = some (q, e) → rs[k]? = some r → ti_c D cl tys (yl ws rs) (RT r) q H) : TI D cl tys RT (yl ws rs) H := by
  intro a r ha
  obtain ⟨k, e, h1, h2⟩ := yl_inv ha
  exact h k a e r h1 h2
theorem yl_all {P : Nat → Nat → Prop} : ∀ (ws : va_W) (rs : List Nat), (∀ x ∈ ws.zip rs, P x.1.1 x.2) → ∀ (k : Nat) (q : Nat) (e : va_E) (r : Nat), ws[k]? = some (q, e) → rs[k]? = some r → P q r := by
  intro ws rs h k q e r h1 h2
  have h3 : (ws.zip rs)[k]? = some ((q, e), r) := by
    rw [List.getElem?_zip_eq_some]
    exact ⟨h1, h2⟩
  exact h _ (List.mem_of_getElem? h3)
/-! constructors: cells known exactly, beside cells whose roles are known -/
theorem ti_lt {D : va_G} {cl : List vw_C} {tys : List (ClassId × FieldType)} {Y : Nat → Option Nat} {sp : tsp} {a : Nat} {H : Heap} (h : ti_c D cl tys Y sp a H) : a < H.size := by
  cases sp with
  | inl o =>
    obtain ⟨fs, h1, -⟩ := h
    exact h1.lt
  | inr x =>
    obtain ⟨cA, ty, g, -, h2, -⟩ := h
    exact (Array.getElem?_eq_some_iff.mp h2).1
def uni (Y Y' : Nat → Option Nat) : Nat → Option Nat := fun q => match Y q with
  | some r => some r
  | none => Y' q
theorem uni_l {Y Y' : Nat → Option Nat} {q r : Nat} (h : Y q = some r) : uni Y Y' q = some r := by
  unfold uni
  rw [h]
theorem uni_r {Y Y' : Nat → Option Nat} {q r : Nat} (hn : ¬ pA Y q) (h : Y' q = some r) : uni Y Y' q = some r := by
  unfold uni
  cases e : Y q with
  | none => exact h
  | some r' => exact absurd ⟨r', e⟩ hn
theorem uni_inv {Y Y' : Nat → Option Nat} {q r : Nat} (h : uni Y Y' q = some r) : Y q = some r ∨ Y' q = some r := by
  unfold uni at h
  cases e : Y q with
  | none => rw [e] at h; exact Or.inr h
  | some r' => rw [e] at h; exact Or.inl h
theorem gm_mono {Y Y' : Nat → Option Nat} (hm : ∀ q r : Nat, Y q = some r → Y' q = some r) {t : tv} {v : Value} (h : gm Y t v) : gm Y' t v := by
  match t, h with
  | .inl b, h => exact h
  | .inr (.inl r), h =>
    obtain ⟨q, h1, h2⟩ := h
    exact ⟨q, h1, hm q r h2⟩
  | .inr (.inr 0), h => exact h
  | .inr (.inr (n + 1)), h => exact h
theorem ti_c.mono {D : va_G} {cl : List vw_C} {tys : List (ClassId × FieldType)} {Y Y' : Nat → Option Nat} (hm : ∀ q r : Nat, Y q = some r → Y' q = some r) {sp : tsp} {a : Nat} {H : Heap} (h : ti_c D cl tys Y sp a H) : ti_c D cl tys Y' sp a H := by
  cases sp with
  | inl o =>
    obtain ⟨fs, h1, h2, h3, h4⟩ := h
    refine ⟨fs, h1, h2, fun k t hk => ?_, h4⟩
    obtain ⟨v, g1, g2⟩ := h3 k t hk
    exact ⟨v, g1, gm_mono hm g2⟩
  | inr x =>
    obtain ⟨cA, ty, g, h1, h2, h3, h4⟩ := h
    exact ⟨cA, ty, g, h1, h2, fun j hj => gm_mono hm (h3 j hj), h4⟩
theorem TI.uni {D : va_G} {cl : List vw_C} {tys : List (ClassId × FieldType)} {RT : Nat → tsp} {Y Y' : Nat → Option Nat} {H : Heap} (hT : TI D cl tys RT Y H) (hT' : TI D cl tys RT Y' H) (hdis : ∀ q, pA Y q → pA Y' q → False) : TI D cl tys RT (uni Y Y') H := by
  intro a r ha
  rcases uni_inv ha with h | h
  · exact (hT a r h).mono (fun q r h => uni_l h)
  · exact (hT' a r h).mono (fun q r h => uni_r (fun z => hdis q z ⟨r, h⟩) h)
def nY (A : Nat → Prop) (Y : Nat → Option Nat) : Nat → Prop := fun q => A q ∧ ¬ pA Y q
def SY (D : va_G) (c0 : Nat → ClassId) (ν : Nat → Nat) (A : Nat → Prop) (H0 H : Heap) (locs : List Loc) (Y : Nat → Option Nat) : Prop := va_S A H0 H locs ∧ (∀ l ∈ locs, l.base < H0.size) ∧ TI D vwCl (tysOf c0) (RTg ν) Y H ∧ ∀ q, pA Y q → H0.size ≤ q
section SYS
variable {p : Program} {l : Launch} {e : Env} {R : Room} {s : State} {m : MethodId} {args : Array Value} {below : List Frame} {meth : Method} {c : Code} {H : Heap} {locs : List Loc} {cells slots : Nat} {Q : State → Prop}
variable {pc : Nat} {ls : Array Slot} {rest st0 : List Value} {D : va_G} {c0 : Nat → ClassId} {ν : Nat → Nat} {A : Nat → Prop} {Y : Nat → Option Nat} {H0 H1 : Heap} {ws : va_W} {aa : Array Value} {mc ms : Nat}
theorem SY.rf (h : SY D c0 ν A H0 H locs Y) : va_S (nY A Y) H H locs := ⟨Nat.le_refl _, fun _ _ _ => rfl, fun y hy => ⟨h.1.2.2 y hy, fun z => absurd (h.2.1 y hy) (Nat.not_lt.mpr (h.2.2.2 _ z))⟩⟩
theorem SY.hA (h : SY D c0 ν A H0 H locs Y) (hA : ∀ q : Nat, H0.size ≤ q → A q) : ∀ q : Nat, H.size ≤ q → nY A Y q := fun q hq => ⟨hA q (Nat.le_trans h.1.1 hq), fun ⟨r, hr⟩ => absurd (ti_lt (h.2.2.1 q r hr)) (Nat.not_lt.mpr hq)⟩
theorem w_fil {g : JFrame} (kk : W p l e R s m args below meth c H (locs.filter (fun y => decide (y.base < s.heap.size))) cells slots Q g) : W p l e R s m args below meth c H locs cells slots Q g := fun T hT X => kk T hT { X with same := X.same.weaken (fun y hy hlt => List.mem_filter.mpr ⟨hy, decide_eq_true hlt⟩) (Nat.le_refl _) (Nat.le_refl _) }
theorem sy_step {locs1 : List Loc} {g : JFrame} (hB : SY D c0 ν A s.heap H locs Y) (hS : va_S (nY A Y) H H1 locs1) (kk : ∀ locs2 : List Loc, SY D c0 ν A s.heap H1 locs2 Y → W p l e R s m args below meth c H1 locs2 cells slots Q g) : W p l e R s m args below meth c H1 locs1 cells slots Q g := by
  refine w_fil (kk _ ⟨⟨Nat.le_trans hB.1.1 hS.1, fun q h1 h2 => (hS.2.1 q (Nat.lt_of_lt_of_le h1 hB.1.1) (fun z => h2 z.1)).trans (hB.1.2.1 q h1 h2), fun y hy => (hS.2.2 y (List.mem_filter.mp hy).1).1⟩, fun y hy => of_decide_eq_true (List.mem_filter.mp hy).2, fun a r ha => (hB.2.2.1 a r ha).kept (hS.2.1 a (ti_lt (hB.2.2.1 a r ha)) (fun z => z.2 ⟨r, ha⟩)), hB.2.2.2⟩)
theorem sy_fresh {h0 : Nat} {e0 e1 : va_E} {q : Nat} {Z : Nat} (hAe : ∀ x, A x → x = h0 ∨ Z ≤ x) (he : (ws ++ [(q, e1)])[0]? = some (h0, e0)) (hw : 0 < ws.length) (hD : va_D (nY A Y) (ws ++ [(q, e1)])) : Z ≤ q := by
  have g : (ws ++ [(q, e1)])[ws.length]? = some (q, e1) := by simp
  rcases hAe q (hD.2 _ _ g).1 with h | h
  · have := hD.1 0 ws.length _ _ he g h.symm
    omega
  · exact h
theorem sy_call {q r : Nat} {e0 : va_E} {B : Heap → Prop} (hr : va_Run p l e R s m args below meth c H locs cells slots mc ms (F0 m pc ls st0) rest (NQ (va_A [(q, e0)] H.size) B aa) (va_A [(q, e0)] H.size)) (hBt : ∀ H1 : Heap, B H1 → ∃ Y' : Nat → Option Nat, TI D vwCl (tysOf c0) (RTg ν) Y' H1 ∧ Y' q = some r ∧ ∀ x, pA Y' x → va_A [(q, e0)] H.size x) (hB : SY D c0 ν A s.heap H locs Y) (hA : ∀ q : Nat, s.heap.size ≤ q → A q) (hP : va_P D vwCl (ws ++ [(q, e0)]) H) (hD : va_D (nY A Y) (ws ++ [(q, e0)])) (hq : s.heap.size ≤ q)
    (kk : ∀ (Y1 : Nat → Option Nat) (H1 : Heap), Y1 q = some r → (∀ a r : Nat, Y a = some r → Y1 a = some r) → va_P D vwCl ws H1 → va_D (nY A Y1) ws → SY D c0 ν A s.heap H1 locs Y1 → W p l e R s m args below meth c H1 locs (cells + mc) (slots + ms) Q (F0 m (pc + 3) ls rest)) : W p l e R s m args below meth c H locs cells slots Q (F0 m pc ls st0) := by
  intro T hT X
  obtain ⟨v, st₀, t, T', L, h0, X', hL, e1, e2, ⟨⟨hv, hb⟩, hz, hk⟩, st⟩ := hr T hT X
  cases hv
  rw [h0] at hz hk
  have hb : B T'.heap := by rw [e1]; exact hb
  have hz : H.size ≤ T'.heap.size := by rw [e1]; exact hz
  have hk : ∀ x : Nat, x < H.size → ¬ va_A [(q, e0)] H.size x → T'.heap[x]? = H[x]? := fun x h1 h2 => by rw [e1]; exact hk x h1 h2
  have hlast : (ws ++ [(q, e0)])[ws.length]? = some (q, e0) := by simp
  have hqY : ¬ pA Y q := (hD.2 _ _ hlast).2
  have hAq : ∀ x, va_A [(q, e0)] H.size x → x = q ∨ H.size ≤ x := by
    rintro x (⟨k, e', h⟩ | h)
    · match k, h with
      | 0, h => cases h; exact Or.inl rfl
      | k + 1, h => simp at h
    · exact Or.inr h
  have hYlt : ∀ x, pA Y x → x < H.size := fun x ⟨r, h⟩ => ti_lt (hB.2.2.1 x r h)
  have hYn : ∀ x, pA Y x → ¬ va_A [(q, e0)] H.size x := fun x h z => by
    rcases hAq x z with e | e
    · exact hqY (e ▸ h)
    · exact absurd (hYlt x h) (Nat.not_lt.mpr e)
  obtain ⟨Y', hT', hy, hA'⟩ := hBt _ hb
  have hdis : ∀ x, pA Y x → pA Y' x → False := fun x h1 h2 => hYn x h1 (hA' x h2)
  have hin : ∀ (k : Nat) (x : Nat × va_E), ws[k]? = some x → (ws ++ [(q, e0)])[k]? = some x := fun k x h => by
    rw [List.getElem?_append_left (List.getElem?_eq_some_iff.mp h).1]; exact h
  have hwn : ∀ (k : Nat) (x : Nat × va_E), ws[k]? = some x → ¬ va_A [(q, e0)] H.size x.1 := fun k x h z => by
    have hl := (List.getElem?_eq_some_iff.mp h).1
    rcases hAq _ z with e | e
    · have := hD.1 _ _ _ _ (hin k x h) hlast e
      omega
    · exact absurd (hP k x (hin k x h)).lt (Nat.not_lt.mpr e)
  have hfr : ∀ x, va_A [(q, e0)] H.size x → s.heap.size ≤ x := fun x z => by
    rcases hAq x z with e | e
    · rw [e]; exact hq
    · exact Nat.le_trans hB.1.1 e
  obtain ⟨t2, a1, b1⟩ := kk (uni Y Y') T'.heap (uni_r hqY hy) (fun a r h => uni_l h) (fun k x hx => (hP k x (hin k x hx)).kept (hk x.1 ((hP k x (hin k x hx)).lt) (hwn k x hx)))
    ⟨fun i j x y hi hj hxy => hD.1 i j x y (hin i x hi) (hin j y hj) hxy, fun k x hx => ⟨(hD.2 k x (hin k x hx)).1, fun ⟨r, z⟩ => by
      rcases uni_inv z with z | z
      · exact (hD.2 k x (hin k x hx)).2 ⟨r, z⟩
      · exact hwn k x hx (hA' _ ⟨r, z⟩)⟩⟩
    ⟨⟨Nat.le_trans hB.1.1 hz, fun x h1 h2 => (hk x (Nat.lt_of_lt_of_le h1 hB.1.1) (fun z => absurd (hfr x z) (Nat.not_le.mpr h1))).trans (hB.1.2.1 x h1 h2), hB.1.2.2⟩, hB.2.1,
      TI.uni (fun a r ha => (hB.2.2.1 a r ha).kept (hk a (hYlt a ⟨r, ha⟩) (hYn a ⟨r, ha⟩))) hT' hdis, fun x ⟨r, z⟩ => by
      rcases uni_inv z with z | z
      · exact hB.2.2.2 x ⟨r, z⟩
      · exact hfr x (hA' x ⟨r, z⟩)⟩ T' rfl (Stand.forget X' (fun y hy => hfr _ (hL y hy)))
  exact ⟨t2, st t2 a1, b1⟩
theorem sy_fin {rs : List Nat} (hB : SY D c0 ν A H0 H locs Y) (hD : va_D (nY A Y) ws) (hall : ∀ (k q : Nat) (e : va_E) (r : Nat), ws[k]? = some (q, e) → rs[k]? = some r → ti_c D vwCl (tysOf c0) (uni Y (yl ws rs)) (RTg ν r) q H) : TI D vwCl (tysOf c0) (RTg ν) (uni Y (yl ws rs)) H := by
  intro a r ha
  rcases uni_inv ha with h | h
  · exact (hB.2.2.1 a r h).mono (fun q r h => uni_l h)
  · obtain ⟨k, e, h1, h2⟩ := yl_inv h
    exact hall k a e r h1 h2
theorem sy_at {rs : List Nat} (hD : va_D (nY A Y) ws) (k : Nat) {q : Nat} {e : va_E} {r : Nat} (hk : ws[k]? = some (q, e)) (hr : rs[k]? = some r) : uni Y (yl ws rs) q = some r := uni_r (hD.2 k _ hk).2 (yl_get hD k hk hr)
theorem sy_astq {cc : ByteArray} {a : Nat} (hexec : p.tables.exec = Jvm.exec) (hb : c.code = cc) (hK : va_K D vwCl (tysOf c0) s) (hP : va_P D vwCl ws H) (hD : va_D (nY A Y) ws) (hB : SY D c0 ν A s.heap H locs Y) (q0 t0 ci : Nat) {cA : ClassId} {r : vw_C} {n v rv : Nat} {f : Nat → Option Nat} (ha : ws[q0]? = some (a, .inl (cA, n, .inr (.inr (.inr (.inr f)))))) (ht : (tysOf c0)[t0]? = some (cA, .object r.1)) (hv : Y v = some rv) {fss : List tv} {P : List Value → Prop} (hR : RTg ν rv = .inl (ci, fss, P)) (hc : vwCl[ci]? = some r) {i : Int32} (hin : vp_in i n) (hdg : decode cc pc = .ok (.aastore, 1))
    (kk : ∀ (H1 : Heap) (locs1 : List Loc), va_P D vwCl (ws.set q0 (a, .inl (cA, n, .inr (.inr (.inr (.inr (va_up f i.toNatClampNeg (some v)))))))) H1 → va_D (nY A Y) (ws.set q0 (a, .inl (cA, n, .inr (.inr (.inr (.inr (va_up f i.toNatClampNeg (some v)))))))) → va_S (nY A Y) H H1 locs1 → W p l e R s m args below meth c H1 locs1 cells slots Q (F0 m (pc + 1) ls rest)) : W p l e R s m args below meth c H locs cells slots Q (F0 m pc ls (.ref v :: .int i :: .ref a :: rest)) := by
  obtain ⟨fs, h1, h2, h3⟩ := ti_obj hB.2.2.1 hv hR
  have hlt : i.toNatClampNeg < n := Nat.not_le.mp fun q => hin (Or.inr q)
  have h0 : ¬ i < 0 := fun q => hin (Or.inl q)
  obtain ⟨r', hr', cellV, g1, g2, g3, -⟩ := h1
  have hcls := (hK.1 ci r hc).2
  obtain ⟨kA, comp, k1, k2, k3, -⟩ := (hK.2 t0 _ ht).2
  have hcomp : comp = D.1 ci := Option.some.inj (k3.symm.trans hcls.1)
  subst hcomp
  obtain ⟨kC, hkC, -⟩ := hcls.2
  refine W.aast hexec hb (hP q0 _ ha) (fun q h => by cases h) (fun h => by cases h) k1 k2 rfl hkC ⟨h0, by show _ < (arrV _ _ _).slots.size; rw [arrV_size]; exact hlt⟩ g1 (fun q h => by rw [g3] at h; cases h) (by rw [g2]; exact hkC) (by rw [g2]; exact va_assign hcls) rfl rfl hdg fun H1 e z oq => ?_
  refine kk H1 _ (hP.set hD ha ?_ oq) (hD.set ha) (hB.rf.put z oq (hD.2 q0 _ ha))
  show H1[a]? = some (vp_cell _ _)
  rw [e]
  rw [vp_cell_q, vp_cell_q, arrV_store]
  congr 2
  funext q
  by_cases hq : q = i.toNatClampNeg
  · subst hq
    simp [updV, va_up, va_rf]
  · simp [updV, va_up, hq]
end SYS
theorem wfg_z0 {Y : Nat → Option Nat} (j : Nat) (h : ¬ (96 ≤ j ∧ j < 160)) : gm Y (wfg j) (.int 0) := by
  obtain ⟨u, w, e, h1, h2⟩ := wfg_0 j h
  rw [e]
  have z : (0 : Int32).toInt = 0 := by decide
  exact ⟨0, rfl, by show u ≤ (0 : Int32).toInt; omega, by show (0 : Int32).toInt ≤ w; omega⟩
theorem wfg_e {Y : Nat → Option Nat} {g : Nat → Int32} (hE : ∀ j : Nat, j < 178 → g j = if j = 3 then 2 else if 96 ≤ j ∧ j < 160 then 1 else 0) (j : Nat) (hj : j < 178) : gm Y (wfg j) (.int (g j)) := by
  rw [hE j hj]
  by_cases h3 : j = 3
  · subst h3
    exact ⟨2, rfl, iv_w (iv_c (x := (2 : Int32)) (k := 2) (by decide)) (by decide)⟩
  · rw [if_neg h3]
    by_cases h : 96 ≤ j ∧ j < 160
    · rw [if_pos h]
      unfold wfg
      rw [if_neg (by omega), if_neg (by omega), if_neg (by omega), if_neg (by omega), if_neg (by omega), if_pos (by omega)]
      exact ⟨1, rfl, iv_w (iv_c (x := (1 : Int32)) (k := 1) (by decide)) (by decide)⟩
    · rw [if_neg h]
      exact wfg_z0 j h
theorem fr_z0 {Y : Nat → Option Nat} (j : Nat) : gm Y (if 96 ≤ j ∧ j < 160 ∧ 96 + 0 ≤ j then .inl (-2147483648, 2147483647) else wfg j) (.int 0) := by
  by_cases h : 96 ≤ j ∧ j < 160 ∧ 96 + 0 ≤ j
  · rw [if_pos h]
    exact ⟨0, rfl, iv_top _⟩
  · rw [if_neg h]
    exact wfg_z0 j (by omega)
theorem at4_z0 {Y : Nat → Option Nat} (j : Nat) : gm Y (if j = 4 then .inl (-1, 7) else .inl (-2147483648, 2147483647)) (.int 0) := by
  by_cases h : j = 4
  · rw [if_pos h]
    exact ⟨0, rfl, iv_w (iv_c (x := (0 : Int32)) (k := 0) (by decide)) (by decide)⟩
  · rw [if_neg h]
    exact ⟨0, rfl, iv_top _⟩
theorem yl_uq {ws : va_W} {rs : List Nat} (h : ∀ i, i < rs.length → ∀ j, j < rs.length → [10, 30, 31, 33, 34, 36, 37, 38, 39, 41, 42, 43, 46].contains (rs.getD i 0) = true → rs.getD i 0 = rs.getD j 0 → i = j) : uq (yl ws rs) := by
  intro r a a' hr h1 h2
  obtain ⟨k, e, g1, g2⟩ := yl_inv h1
  obtain ⟨k', e', g1', g2'⟩ := yl_inv h2
  have l1 := (List.getElem?_eq_some_iff.mp g2).1
  have l2 := (List.getElem?_eq_some_iff.mp g2').1
  have e1 : rs.getD k 0 = r := by rw [List.getD_eq_getElem?_getD, g2]; rfl
  have e2 : rs.getD k' 0 = r := by rw [List.getD_eq_getElem?_getD, g2']; rfl
  have q := h k l1 k' l2 (by rw [e1]; exact hr) (e1.trans e2.symm)
  subst q
  cases g1.symm.trans g1'
  rfl
theorem tc_ints {D : va_G} {cl : List vw_C} {tys : List (ClassId × FieldType)} {RT : Nat → tsp} {Y : Nat → Option Nat} {H : Heap} {q r t n : Nat} {f : Nat → tv} {P : (Nat → Value) → Prop} {cA : ClassId} {ty : FieldType} {g : Nat → Int32} (hR : RT r = .inr (t, n, f, P)) (ht : tys[t]? = some (cA, ty)) (h : va_at D cl (q, .inl (cA, n, .inl g)) H) (hg : ∀ j, j < n → gm Y (f j) (.int (g j))) (hp : P (fun j => .int (g j))) : ti_c D cl tys Y (RT r) q H := by
  rw [hR]
  exact ⟨cA, ty, fun j => .int (g j), ht, h, hg, hp⟩
theorem tc_longs {D : va_G} {cl : List vw_C} {tys : List (ClassId × FieldType)} {RT : Nat → tsp} {Y : Nat → Option Nat} {H : Heap} {q r t n : Nat} {f : Nat → tv} {P : (Nat → Value) → Prop} {cA : ClassId} {ty : FieldType} {g : Nat → Int64} (hR : RT r = .inr (t, n, f, P)) (ht : tys[t]? = some (cA, ty)) (h : va_at D cl (q, .inl (cA, n, .inr (.inl g))) H) (hg : ∀ j, j < n → gm Y (f j) (.long (g j))) (hp : P (fun j => .long (g j))) : ti_c D cl tys Y (RT r) q H := by
  rw [hR]
  exact ⟨cA, ty, fun j => .long (g j), ht, h, hg, hp⟩
theorem tc_refs {D : va_G} {cl : List vw_C} {tys : List (ClassId × FieldType)} {RT : Nat → tsp} {Y : Nat → Option Nat} {H : Heap} {q r t n : Nat} {f : Nat → tv} {P : (Nat → Value) → Prop} {cA : ClassId} {ty : FieldType} {g : Nat → Option Nat} (hR : RT r = .inr (t, n, f, P)) (ht : tys[t]? = some (cA, ty)) (h : va_at D cl (q, .inl (cA, n, .inr (.inr (.inr (.inr g))))) H) (hg : ∀ j, j < n → gm Y (f j) (va_rf (g j))) (hp : P (fun j => va_rf (g j))) : ti_c D cl tys Y (RT r) q H := by
  rw [hR]
  exact ⟨cA, ty, fun j => va_rf (g j), ht, h, hg, hp⟩
