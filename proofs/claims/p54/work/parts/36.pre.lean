theorem law_arrs {s : State} {args : Array Value} (h0 : (Cond.arrayClass .int).before args s = true) (h1 : (Cond.arrayClass .byte).before args s = true) (h2 : (Cond.arrayClass .boolean).before args s = true) (h3 : (Cond.arrayClass .long).before args s = true) (h4 : va_AO "SixStroke$Town" s) (h5 : va_AO "SixStroke$Slot" s) (h6 : va_AO "SixStroke$Person" s) : ∃ c0 : Nat → ClassId, ∀ (k : Nat) (q : ClassId × FieldType), (tysOf c0)[k]? = some q → ArrOfT s q.1 q.2 ∧ va_RA s q.1 q.2 := by
  obtain ⟨d0, k0, m0, f0, g0, e0⟩ := Cond.arrayClass_spec h0
  obtain ⟨d1, k1, m1, f1, g1, e1⟩ := Cond.arrayClass_spec h1
  obtain ⟨d2, k2, m2, f2, g2, e2⟩ := Cond.arrayClass_spec h2
  obtain ⟨d3, k3, m3, f3, g3, e3⟩ := Cond.arrayClass_spec h3
  obtain ⟨m4, d4, k4, a4, -, g4, e4, f4⟩ := Cond.arrayOver_spec h4
  obtain ⟨m5, d5, k5, a5, -, g5, e5, f5⟩ := Cond.arrayOver_spec h5
  obtain ⟨m6, d6, k6, a6, -, g6, e6, f6⟩ := Cond.arrayOver_spec h6
  refine ⟨fun k => match k with
    | 0 => d0
    | 1 => d1
    | 2 => d2
    | 3 => d3
    | 4 => d4
    | 5 => d5
    | _ => d6, ?_⟩
  intro k q hq
  match k, hq with
  | 0, hq => cases hq; exact ⟨fun n z => ⟨fun _ h => (by cases h), k0, g0, m0, e0⟩, f0⟩
  | 1, hq => cases hq; exact ⟨fun n z => ⟨fun _ h => (by cases h), k1, g1, m1, e1⟩, f1⟩
  | 2, hq => cases hq; exact ⟨fun n z => ⟨fun _ h => (by cases h), k2, g2, m2, e2⟩, f2⟩
  | 3, hq => cases hq; exact ⟨fun n z => ⟨fun _ h => (by cases h), k3, g3, m3, e3⟩, f3⟩
  | 4, hq => cases hq; exact ⟨fun n z => ⟨fun _ h => (by cases h), k4, g4, m4, e4⟩, ⟨k4, m4, g4, e4, a4, f4⟩⟩
  | 5, hq => cases hq; exact ⟨fun n z => ⟨fun _ h => (by cases h), k5, g5, m5, e5⟩, ⟨k5, m5, g5, e5, a5, f5⟩⟩
  | 6, hq => cases hq; exact ⟨fun n z => ⟨fun _ h => (by cases h), k6, g6, m6, e6⟩, ⟨k6, m6, g6, e6, a6, f6⟩⟩
  | k + 7, hq => simp [tysOf] at hq
theorem law_A {S o z : Nat} {e : va_E} (h1 : S ≤ o) (h2 : S ≤ z) : ∀ q, va_A [(o, e)] z q → S ≤ q := by
  rintro q (⟨k, x, h⟩ | h)
  · match k, h with
    | 0, h => cases h; exact h1
    | k + 1, h => simp at h
  · exact Nat.le_trans h2 h
theorem ti_newR {p : Program} {l : Launch} {e : Env} {R : Room} {s : State} {m : MethodId} {args : Array Value} {below : List Frame} {meth : Method} {c : Code} {H : Heap} {locs : List Loc} {cells slots : Nat} {Q : State → Prop} {pc : Nat} {ls : Array Slot} {rest : List Value} {H0 : Heap} {A : Nat → Prop} {cc : ByteArray} {D : va_G} {tys : List (ClassId × FieldType)} (hexec : p.tables.exec = Jvm.exec) (hb : c.code = cc) {own C : String} {T : u_T} {N ci index : Nat} {Ts : List Cond} (hts : ∀ w ∈ Ts, w.before args s = true) (hin : ∀ w ∈ u_ws C T N, w ∈ Ts) (ty : Nat → FieldType) (hty : ∀ k, k < N → parseFieldDescriptor (T k).2.2.1 = some (ty k)) (hown : s.vm.findClass own = some m.cls) (hcl : (Cond.classLink own index C).before args s = true) (hinst : (Cond.instantiable C N).before args s = true) (hini : (Cond.initialized C).before args s = true)
    (hK : va_K D vwCl tys s) (hS : va_S A H0 H locs) (hc : vwCl[ci]? = some (C, T, N)) {fs : List Value} (hfs : ∀ j, j < N → defaultValue (ty j) = vp_V fs j) (hcells : cells + 1 ≤ R.cells) (hslots : slots + N ≤ R.slots) (hdg : decode cc pc = .ok (.new index, 3))
    (kk : ∀ (q : Nat) (H1 : Heap), q = H.size → va_P D vwCl [(q, .inr (ci, fs))] H1 → H1.size = H.size + 1 → (∀ x : Nat, x < H.size → H1[x]? = H[x]?) → va_S A H0 H1 locs →
      W p l e R s m args below meth c H1 locs (cells + 1) (slots + N) Q (F0 m (pc + 3) ls (.ref q :: rest))) : W p l e R s m args below meth c H locs cells slots Q (F0 m pc ls rest) := by
  have hKn := hK.1 ci _ hc
  refine W.newcK hexec hb hown hcl hinst hini rfl hdg hcells hslots hKn.2.1 rfl fun H1 kC hkC e1 z1 o1 => ?_
  refine kk H.size H1 rfl (fun k x hx => ?_) z1 o1 ⟨Nat.le_trans hS.1 (by omega), fun x h1 h2 => (o1 x (Nat.lt_of_lt_of_le h1 hS.1)).trans (hS.2.1 x h1 h2), hS.2.2⟩
  have hz : k < 1 := (List.getElem?_eq_some_iff.mp hx).1
  rw [show k = 0 by omega] at hx
  cases hx
  exact ⟨_, hc, (u_born ty hts hin hKn hkC e1 hty).to hfs⟩
theorem TI.frameW {D : va_G} {cl : List vw_C} {tys : List (ClassId × FieldType)} {RT : Nat → tsp} {Y1 Y2 : Nat → Option Nat} {ws : List Nat} {H H1 : Heap} (hT : TI D cl tys RT Y2 H) (hdis : ∀ q, pA Y1 q → pA Y2 q → False) (hk : ∀ q : Nat, q < H.size → ¬ pW Y1 ws q → H1[q]? = H[q]?) : TI D cl tys RT Y2 H1 := fun a r ha => (hT a r ha).kept (hk a (ti_lt (hT a r ha)) (fun z => hdis a (pW_pA z) ⟨r, ha⟩))
theorem SO.narrow {A B : Nat → Prop} {adK adV : Nat → Nat} {U : State} {H : Heap} (h : SO A adK adV U H) (hAB : ∀ q, B q → A q) : SO B adK adV U H := by
  obtain ⟨h1, h2, ⟨v, h3, h4⟩, h5⟩ := h
  exact ⟨vk_S.narrow h1 hAB, va_Z.narrow h2 hAB, ⟨v, h3, va_Z.narrow h4 hAB⟩, h5⟩
theorem ts_preL {D : va_G} {tys : List (ClassId × FieldType)} {RT : Nat → tsp} {Y : Nat → Option Nat} {adK adV : Nat → Nat} {H : Heap} {s : State} {locs : List Loc} {a r : Nat} {A : Nat → Prop} {As : List Value} (hK : va_K D vwCl tys s) (hSO : SO A adK adV s s.heap) (hS : va_S A s.heap H locs) (hA : ∀ q, pA Y q → A q) (hT : TI D vwCl tys RT Y H) (ha : Y a = some r) {ci : Nat} {fss : List tv} {P : List Value → Prop} (hR : RT r = .inl (ci, fss, P)) {C : String} {T : u_T} {N : Nat} (hc : vwCl[ci]? = some (C, T, N)) : PreV s H C a (TPs D tys Y adK adV H (.ref a :: As)) As := ⟨ts_blind, ti_recv hK hT ha hR hc, fun _ hU hW => ⟨rfl, hU, va_K.moved hW.alike hK, ((hSO.kept hS.2.1).narrow hA).warm hW⟩⟩
def nuOK (ν : Nat → Nat) : Prop := ν 3 = 0 ∧ ν 4 = 0 ∧ ν 5 = 0 ∧ ∀ j, j < 4 → ν (6 + j) ≤ 61
theorem law_in {i k : Int32} {L : Nat} {d : Int} (hi : iv i 0 3066) (hiL : i.toInt + 6 ≤ (L : Int)) (hk : k.toInt = d) (h0 : 0 ≤ d) (h6 : d < 6) : vp_in (i + k) L := by
  have e : (i + k).toInt = i.toInt + k.toInt := by
    rw [Int32.toInt_add]
    have := hi.1
    have := hi.2
    exact iv_bm (by omega) (by omega)
  have := hi.1
  rw [vp_in_iff]
  omega
theorem law_in0 {i : Int32} {L : Nat} (hi : iv i 0 3066) (hiL : i.toInt + 6 ≤ (L : Int)) : vp_in i L := by
  have := hi.1
  rw [vp_in_iff]
  omega

theorem nestL_in : ∀ w ∈ nestL, w ∈ lw_tbl := List.forall_mem_cons.mpr ⟨mt_1 _ (List.mem_of_getElem? (i := 28) (by decide +kernel)), List.forall_mem_cons.mpr ⟨mt_2 _ (List.mem_of_getElem? (i := 48) (by decide +kernel)), List.forall_mem_cons.mpr ⟨mt_2 _ (List.mem_of_getElem? (i := 101) (by decide +kernel)), List.forall_mem_cons.mpr ⟨mt_2 _ (List.mem_of_getElem? (i := 146) (by decide +kernel)), List.forall_mem_cons.mpr ⟨mt_2 _ (List.mem_of_getElem? (i := 173) (by decide +kernel)), List.forall_mem_cons.mpr ⟨mt_2 _ (List.mem_of_getElem? (i := 106) (by decide +kernel)), List.forall_mem_cons.mpr ⟨mt_1 _ (List.mem_of_getElem? (i := 40) (by decide +kernel)), List.forall_mem_cons.mpr ⟨mt_1 _ (List.mem_of_getElem? (i := 80) (by decide +kernel)), List.forall_mem_cons.mpr ⟨mt_1 _ (List.mem_of_getElem? (i := 109) (by decide +kernel)), List.forall_mem_cons.mpr ⟨mt_2 _ (List.mem_of_getElem? (i := 151) (by decide +kernel)), List.forall_mem_cons.mpr ⟨mt_2 _ (List.mem_of_getElem? (i := 153) (by decide +kernel)), fun _ h => absurd h List.not_mem_nil⟩⟩⟩⟩⟩⟩⟩⟩⟩⟩⟩
theorem nestL_on {A : Array Value} {s : State} : ∀ w ∈ nestL, w.before A s = true → va_Nw w s := by
  intro w hw h
  simp only [nestL, List.mem_cons, List.not_mem_nil, or_false] at hw
  rcases hw with e | e | e | e | e | e | e | e | e | e | e <;> subst e <;> exact va_Nw.of rfl h
theorem ao4_in : Cond.arrayOver (.object "SixStroke$Town") ∈ lw_tbl := mt_2 _ (List.mem_of_getElem? (i := 43) (by decide +kernel))
theorem ao5_in : Cond.arrayOver (.object "SixStroke$Slot") ∈ lw_tbl := mt_2 _ (List.mem_of_getElem? (i := 45) (by decide +kernel))
theorem ao6_in : Cond.arrayOver (.object "SixStroke$Person") ∈ lw_tbl := mt_1 _ (List.mem_of_getElem? (i := 107) (by decide +kernel))
def ixS : List Nat := [57, 63, 71, 135, 141, 145, 159, 161, 163, 152, 80, 177, 183, 187, 191, 195, 199, 207, 212, 214, 216, 218, 223, 85, 225, 90]
def ixM : List Nat := [252, 254, 235, 191, 197, 199, 185, 187, 189, 204, 237, 218, 220, 222, 224, 226, 228, 206, 208, 214, 216, 212, 210, 239, 233, 241]
def poS : List Nat := [42, 50, 59, 66, 74, 82, 90, 98, 108, 117, 126, 136, 143, 153, 162, 171, 179, 188, 195, 204, 212, 220, 228, 238, 246, 256]
def poM : List Nat := [273, 283, 291, 330, 339, 348, 357, 368, 378, 388, 302, 396, 407, 417, 427, 436, 446, 454, 464, 493, 502, 484, 475, 311, 513, 321]
def tmS (i : Nat) : Term := .string RX6 (ixS.getD i 0)
abbrev flS : List Cond := flatC (Jvm.Cond.and given_1 narrow_1)
theorem nw_ex : ∀ i : Nat, i < 26 → flS[poS.getD i 0 + 0]? = some (Cond.exactly (tmS i) "java/lang/String") := by decide +kernel
theorem nw_co : ∀ i : Nat, i < 26 → flS[poS.getD i 0 + 1]? = some (Cond.eq (.field (tmS i) "java/lang/String" "coder" "B") (.int 0)) := by decide +kernel
theorem nw_ar : ∀ i : Nat, i < 26 → flS[poS.getD i 0 + 2]? = some (Cond.arrayOf (.field (tmS i) "java/lang/String" "value" "[B") .byte) := by decide +kernel
theorem nw_le : ∀ i : Nat, i < 26 → flS[poS.getD i 0 + 3]? = some (Cond.eq (.length (.field (tmS i) "java/lang/String" "value" "[B")) (.int (Int32.ofNat (lenS.getD i 0)))) := by decide +kernel
theorem nw_el : ∀ i : Nat, i < 26 → ∀ j : Nat, j < lenS.getD i 0 → flS[poS.getD i 0 + 4 + j]? = some (Cond.eq (.elem (.field (tmS i) "java/lang/String" "value" "[B") (.int (Int32.ofNat j))) (.int ((bytS.getD i []).getD j 0))) := by decide +kernel
theorem nw_eq : ∀ i : Nat, i < 26 → flS[poM.getD i 0]? = some (Cond.eq (tmS i) (.string RX10 (ixM.getD i 0))) := by decide +kernel
theorem nw_cs : flS[4]? = some (Cond.eq (.static "java/lang/String" "COMPACT_STRINGS" "Z") (.int 1)) := by decide +kernel
theorem nw_pc : flS[5]? = some (Cond.isRef (.static "jdk/internal/util/Preconditions" "SIOOBE_FORMATTER" "Ljava/util/function/BiFunction;")) := by decide +kernel
theorem byt_inj : ∀ i : Nat, i < 26 → ∀ j : Nat, j < 26 → lenS.getD i 0 = lenS.getD j 0 → (∀ k : Nat, k < lenS.getD i 0 → (bytS.getD i []).getD k 0 = (bytS.getD j []).getD k 0) → i = j := by decide +kernel
theorem ls_cs : Cond.laysStatic "java/lang/String" "COMPACT_STRINGS" "Z" ∈ lw_tbl := mt_3 _ (List.mem_of_getElem? (i := 39) (by decide +kernel))
theorem in_cs : Cond.initialized "java/lang/String" ∈ lw_tbl := mt_1 _ (List.mem_of_getElem? (i := 13) (by decide +kernel))
theorem ls_pc : Cond.laysStatic "jdk/internal/util/Preconditions" "SIOOBE_FORMATTER" "Ljava/util/function/BiFunction;" ∈ lw_tbl := mt_3 _ (List.mem_of_getElem? (i := 55) (by decide +kernel))
theorem in_pc : Cond.initialized "jdk/internal/util/Preconditions" ∈ lw_tbl := mt_1 _ (List.mem_of_getElem? (i := 15) (by decide +kernel))
theorem lit_in : ∀ w ∈ litL, Cond.stringRef w.1 w.2.1 w.2.2.1 ∈ lw_tbl := List.forall_mem_cons.mpr ⟨mt_3 _ (List.mem_of_getElem? (i := 21) (by decide +kernel)), List.forall_mem_cons.mpr ⟨mt_3 _ (List.mem_of_getElem? (i := 82) (by decide +kernel)), List.forall_mem_cons.mpr ⟨mt_3 _ (List.mem_of_getElem? (i := 91) (by decide +kernel)), List.forall_mem_cons.mpr ⟨mt_3 _ (List.mem_of_getElem? (i := 96) (by decide +kernel)), List.forall_mem_cons.mpr ⟨mt_3 _ (List.mem_of_getElem? (i := 97) (by decide +kernel)), List.forall_mem_cons.mpr ⟨mt_3 _ (List.mem_of_getElem? (i := 98) (by decide +kernel)), List.forall_mem_cons.mpr ⟨mt_3 _ (List.mem_of_getElem? (i := 103) (by decide +kernel)), List.forall_mem_cons.mpr ⟨mt_3 _ (List.mem_of_getElem? (i := 108) (by decide +kernel)), List.forall_mem_cons.mpr ⟨mt_3 _ (List.mem_of_getElem? (i := 109) (by decide +kernel)), List.forall_mem_cons.mpr ⟨mt_3 _ (List.mem_of_getElem? (i := 110) (by decide +kernel)), List.forall_mem_cons.mpr ⟨mt_3 _ (List.mem_of_getElem? (i := 111) (by decide +kernel)), List.forall_mem_cons.mpr ⟨mt_3 _ (List.mem_of_getElem? (i := 120) (by decide +kernel)), List.forall_mem_cons.mpr ⟨mt_3 _ (List.mem_of_getElem? (i := 121) (by decide +kernel)), List.forall_mem_cons.mpr ⟨mt_3 _ (List.mem_of_getElem? (i := 122) (by decide +kernel)), List.forall_mem_cons.mpr ⟨mt_3 _ (List.mem_of_getElem? (i := 123) (by decide +kernel)), List.forall_mem_cons.mpr ⟨mt_3 _ (List.mem_of_getElem? (i := 124) (by decide +kernel)), List.forall_mem_cons.mpr ⟨mt_3 _ (List.mem_of_getElem? (i := 125) (by decide +kernel)), List.forall_mem_cons.mpr ⟨mt_3 _ (List.mem_of_getElem? (i := 130) (by decide +kernel)), List.forall_mem_cons.mpr ⟨mt_3 _ (List.mem_of_getElem? (i := 131) (by decide +kernel)), List.forall_mem_cons.mpr ⟨mt_3 _ (List.mem_of_getElem? (i := 132) (by decide +kernel)), List.forall_mem_cons.mpr ⟨mt_3 _ (List.mem_of_getElem? (i := 133) (by decide +kernel)), List.forall_mem_cons.mpr ⟨mt_3 _ (List.mem_of_getElem? (i := 134) (by decide +kernel)), List.forall_mem_cons.mpr ⟨mt_3 _ (List.mem_of_getElem? (i := 135) (by decide +kernel)), List.forall_mem_cons.mpr ⟨mt_3 _ (List.mem_of_getElem? (i := 136) (by decide +kernel)), List.forall_mem_cons.mpr ⟨mt_3 _ (List.mem_of_getElem? (i := 141) (by decide +kernel)), List.forall_mem_cons.mpr ⟨mt_3 _ (List.mem_of_getElem? (i := 142) (by decide +kernel)), List.forall_mem_cons.mpr ⟨mt_6 _ (List.mem_of_getElem? (i := 148) (by decide +kernel)), List.forall_mem_cons.mpr ⟨mt_6 _ (List.mem_of_getElem? (i := 167) (by decide +kernel)), List.forall_mem_cons.mpr ⟨mt_6 _ (List.mem_of_getElem? (i := 180) (by decide +kernel)), List.forall_mem_cons.mpr ⟨mt_6 _ (List.mem_of_getElem? (i := 181) (by decide +kernel)), List.forall_mem_cons.mpr ⟨mt_6 _ (List.mem_of_getElem? (i := 182) (by decide +kernel)), List.forall_mem_cons.mpr ⟨mt_6 _ (List.mem_of_getElem? (i := 183) (by decide +kernel)), List.forall_mem_cons.mpr ⟨mt_6 _ (List.mem_of_getElem? (i := 188) (by decide +kernel)), List.forall_mem_cons.mpr ⟨mt_6 _ (List.mem_of_getElem? (i := 189) (by decide +kernel)), List.forall_mem_cons.mpr ⟨mt_6 _ (List.mem_of_getElem? (i := 190) (by decide +kernel)), List.forall_mem_cons.mpr ⟨mt_6 _ (List.mem_of_getElem? (i := 195) (by decide +kernel)), List.forall_mem_cons.mpr ⟨mt_6 _ (List.mem_of_getElem? (i := 196) (by decide +kernel)), List.forall_mem_cons.mpr ⟨mt_6 _ (List.mem_of_getElem? (i := 197) (by decide +kernel)), List.forall_mem_cons.mpr ⟨mt_6 _ (List.mem_of_getElem? (i := 198) (by decide +kernel)), List.forall_mem_cons.mpr ⟨mt_6 _ (List.mem_of_getElem? (i := 203) (by decide +kernel)), List.forall_mem_cons.mpr ⟨mt_6 _ (List.mem_of_getElem? (i := 204) (by decide +kernel)), List.forall_mem_cons.mpr ⟨mt_6 _ (List.mem_of_getElem? (i := 205) (by decide +kernel)), List.forall_mem_cons.mpr ⟨mt_6 _ (List.mem_of_getElem? (i := 206) (by decide +kernel)), List.forall_mem_cons.mpr ⟨mt_6 _ (List.mem_of_getElem? (i := 207) (by decide +kernel)), List.forall_mem_cons.mpr ⟨mt_6 _ (List.mem_of_getElem? (i := 208) (by decide +kernel)), List.forall_mem_cons.mpr ⟨mt_6 _ (List.mem_of_getElem? (i := 213) (by decide +kernel)), List.forall_mem_cons.mpr ⟨mt_6 _ (List.mem_of_getElem? (i := 214) (by decide +kernel)), List.forall_mem_cons.mpr ⟨mt_6 _ (List.mem_of_getElem? (i := 215) (by decide +kernel)), List.forall_mem_cons.mpr ⟨mt_6 _ (List.mem_of_getElem? (i := 216) (by decide +kernel)), List.forall_mem_cons.mpr ⟨mt_6 _ (List.mem_of_getElem? (i := 217) (by decide +kernel)), List.forall_mem_cons.mpr ⟨mt_6 _ (List.mem_of_getElem? (i := 218) (by decide +kernel)), List.forall_mem_cons.mpr ⟨mt_6 _ (List.mem_of_getElem? (i := 223) (by decide +kernel)), fun _ h => absurd h List.not_mem_nil⟩⟩⟩⟩⟩⟩⟩⟩⟩⟩⟩⟩⟩⟩⟩⟩⟩⟩⟩⟩⟩⟩⟩⟩⟩⟩⟩⟩⟩⟩⟩⟩⟩⟩⟩⟩⟩⟩⟩⟩⟩⟩⟩⟩⟩⟩⟩⟩⟩⟩⟩⟩
theorem lit_k : ∀ w ∈ litL, w.2.2.2 < 26 ∧ (w.1 = RX6 ∧ w.2.1 = ixS.getD w.2.2.2 0 ∨ w.1 = RX10 ∧ w.2.1 = ixM.getD w.2.2.2 0) := by decide +kernel
theorem strOF {o n d : String} {v v' : Value} {t : Nat} {A : Nat → Prop} {U : State} {H : Heap} (h : va_OF o n d v t A U H) (h' : va_OF o n d v' t A U H) : v = v' := by
  obtain ⟨cf, k, i, f, cell, g1, -, g3, -, g5, -⟩ := h
  obtain ⟨cf', k', i', f', cell', g1', -, g3', -, g5', -⟩ := h'
  cases g1.symm.trans g1'
  cases g3.symm.trans g3'
  exact Option.some.inj (g5.symm.trans g5')
set_option maxHeartbeats 4000000 in
theorem law_strs {s : State} {b : Nat} (hgv : (Jvm.Cond.and given_1 narrow_1).before #[Value.ref b] s = true) (htab : ∀ w ∈ lw_tbl, w.before #[Value.ref b] s = true) : ∃ adK adV : Nat → Nat, SO (fun q : Nat => s.heap.size ≤ q) adK adV s s.heap := by
  have hs := flat_of_before _ hgv
  have hg : ∀ {k : Nat} {w : Cond}, flS[k]? = some w → w.before #[Value.ref b] s = true := fun h => hs _ (List.mem_of_getElem? h)
  have hA : ∀ a : Nat, a < s.heap.size → ¬ (fun q : Nat => s.heap.size ≤ q) a := fun a h z => absurd h (Nat.not_lt.mpr z)
  have h0 : ∀ i : Nat, ∃ q : Nat × Nat, i < 26 → (tmS i).eval #[Value.ref b] s none [] s = some (.ref q.1) ∧ va_O "java/lang/String" q.1 (fun q : Nat => s.heap.size ≤ q) s s.heap ∧ va_OF "java/lang/String" "coder" "B" (.int 0) q.1 (fun q : Nat => s.heap.size ≤ q) s s.heap ∧ va_OF "java/lang/String" "value" "[B" (.ref q.2) q.1 (fun q : Nat => s.heap.size ≤ q) s s.heap ∧ va_T .byte q.2 (lenS.getD i 0) (fun j => .int ((bytS.getD i []).getD j 0)) (fun q : Nat => s.heap.size ≤ q) s s.heap := by
    intro i
    by_cases hi : i < 26
    · have z1 : ∀ k : Nat, k < 1 → [lenS.getD i 0].getD k 0 = lenS.getD i 0 := fun k hk => by
        have e : k = 0 := by omega
        subst e
        rfl
      have z2 : ∀ k : Nat, k < 1 → [bytS.getD i []].getD k [] = bytS.getD i [] := fun k hk => by
        have e : k = 0 := by omega
        subst e
        rfl
      obtain ⟨aK, aV, hS, hE⟩ := vk_Sof (args := #[Value.ref b]) (s := s) (N := 1) (tm := fun _ => tmS i) (len := [lenS.getD i 0]) (byt := [bytS.getD i []]) (A := fun q : Nat => s.heap.size ≤ q)
        (fun k hk => by rw [z1 k hk]; exact Nat.lt_trans (lenS_lt i hi) (by decide)) (fun k hk => hg (nw_ex i hi)) (fun k hk => hg (nw_co i hi)) (fun k hk => hg (nw_ar i hi)) (fun k hk => by rw [z1 k hk]; exact hg (nw_le i hi))
        (fun k hk j hj => by rw [z1 k hk] at hj; rw [z2 k hk]; exact hg (nw_el i hi j hj)) (fun k j hk hj hn => absurd (by omega) hn) hA
      have q := hS.1 0 (by decide)
      exact ⟨(aK 0, aV 0), fun _ => ⟨hE 0 (by decide), q.1, q.2.1, q.2.2.1, q.2.2.2⟩⟩
    · exact ⟨(0, 0), fun h => absurd h hi⟩
  obtain ⟨ad, had⟩ := Classical.axiomOfChoice h0
  have hZ := va_Zqof (A := fun q : Nat => s.heap.size ≤ q) (htab _ ls_pc) (htab _ in_pc) (hg nw_pc) hA
  refine ⟨fun i => (ad i).1, fun i => (ad i).2, ⟨fun i hi => (had i hi).2, fun i j hi hj e => ?_⟩, va_Zof (htab _ ls_cs) (htab _ in_cs) (va_eqi (hg nw_cs)) hA, ?_, fun w hw => ?_⟩
  · obtain ⟨-, -, -, f1, cell, c1, -, -, c4, c5, c6, -⟩ := had i hi
    obtain ⟨-, -, -, f2, cell', c1', -, -, c4', c5', c6', -⟩ := had j hj
    have e : (ad i).1 = (ad j).1 := e
    rw [e] at f1
    have ev := strOF f1 f2
    injection ev with ev
    rw [ev] at c1
    cases c1.symm.trans c1'
    have l1 := lenS_lt i hi
    have l2 := lenS_lt j hj
    have el : lenS.getD i 0 = lenS.getD j 0 := by
      have q := congrArg Int32.toInt (c5.symm.trans c5')
      rw [Int32.toInt_ofNat_of_lt (by omega), Int32.toInt_ofNat_of_lt (by omega)] at q
      omega
    refine byt_inj i hi j hj el (fun k hk => ?_)
    have q := Option.some.inj ((c6 k hk).symm.trans (c6' k (by omega)))
    injection q with q
  · rcases hZ with h | ⟨t, h⟩
    · exact ⟨.null, Or.inl rfl, h⟩
    · exact ⟨.ref t, Or.inr ⟨t, rfl⟩, h⟩
  · obtain ⟨h1, h2⟩ := lit_k w hw
    refine vk_R.of (htab _ (lit_in w hw)) ?_
    have q := (had w.2.2.2 h1).1
    rcases h2 with ⟨e1, e2⟩ | ⟨e1, e2⟩
    · rw [e1, e2]
      exact q
    · rw [e1, e2]
      exact va_eqR (hg (nw_eq w.2.2.2 h1)) q
