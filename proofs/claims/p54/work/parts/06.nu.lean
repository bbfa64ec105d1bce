/-! the model's tables: which of its arrays are typed -/
def νt (ν : Nat → Nat) : Nat → Nat := fun i => if i = 3 then 178 else if i = 5 then 1 else ν i
def νd (ν : Nat → Nat) : Nat → Nat := fun i => if i = 5 then 0 else ν i
def νw (ν : Nat → Nat) : Nat → Nat := fun i => if i = 3 then 0 else if i = 5 then 0 else ν i
def νf (ν : Nat → Nat) : Nat → Nat := fun i => if i = 4 then 64 else ν i
def νk (ν : Nat → Nat) (k n : Nat) : Nat → Nat := fun i => if i = k then n else ν i
theorem nu_back {ν : Nat → Nat} (h3 : ν 3 = 0) (h5 : ν 5 = 0) : νw (νt ν) = ν := by
  funext i
  unfold νw νt
  by_cases e3 : i = 3
  · subst e3; rw [if_pos rfl, h3]
  · rw [if_neg e3]
    by_cases e5 : i = 5
    · subst e5; rw [if_pos rfl, h5]
    · rw [if_neg e5, if_neg e3, if_neg e5]
def uq (Y : Nat → Option Nat) : Prop := ∀ r a a' : Nat, [10, 30, 31, 33, 34, 36, 37, 38, 39, 41, 42, 43, 46].contains r = true → Y a = some r → Y a' = some r → a = a'
theorem wfg_i (j : Nat) : ∃ u w : Int, wfg j = .inl (u, w) := by
  unfold wfg
  repeat' split
  all_goals exact ⟨_, _, rfl⟩
theorem wfg_has : ∀ p : Nat, p < 8 → wfg (16 + 10 * p) = .inl (-2147483648, 100000) := by decide
theorem wfg_othF : ∀ (p : Fin 8) (w : Fin 10), w.val ≠ 0 → wfg (16 + 10 * p.val + w.val) = .inl (-2147483648, 2147483647) := by decide +kernel
theorem wfg_oth (p : Nat) (hp : p < 8) (w : Nat) (hw : w < 10) (h : w ≠ 0) : wfg (16 + 10 * p + w) = .inl (-2147483648, 2147483647) := wfg_othF ⟨p, hp⟩ ⟨w, hw⟩ h
theorem of_le {Y : Nat → Option Nat} {j p : Nat} {x : Int32} (h : gm Y (wfg j) (.int x)) (hj : j = 16 + 10 * p) (hp : p < 8) : x.toInt ≤ 100000 := by
  subst hj
  rw [wfg_has p hp] at h
  obtain ⟨y, e, h1⟩ := h
  cases e
  exact h1.2
theorem set_g {Y : Nat → Option Nat} {j p w : Nat} {x : Int32} (hj : j = 16 + 10 * p + w) (hp : p < 8) (hw : w < 10) (h : w = 0 → x.toInt ≤ 100000) : gm Y (wfg j) (.int x) := by
  subst hj
  by_cases e : w = 0
  · subst e
    rw [Nat.add_zero, wfg_has p hp]
    exact ⟨x, rfl, (iv_top x).1, h rfl⟩
  · rw [wfg_oth p hp w hw e]
    exact ⟨x, rfl, iv_top x⟩
/-- the loop that copies or fills, a step further -/
theorem cpy_step {Y : Nat → Option Nat} {A b : Nat} {f : Nat → tv} {H H1 : Heap} {i k k' : Int32} {x : Int32} (hinv : ∀ j : Nat, j < k.toNatClampNeg → ∃ v : Value, am A (b + j) v H ∧ gm Y (f j) v) (he : am A i.toNatClampNeg (.int x) H1) (hk : ∀ (j : Nat) (v' : Value), j ≠ i.toNatClampNeg → am A j v' H → am A j v' H1) (hi : i.toNatClampNeg = b + k.toNatClampNeg) (hk' : k'.toNatClampNeg = k.toNatClampNeg + 1) (hg : gm Y (f k.toNatClampNeg) (.int x)) : ∀ j : Nat, j < k'.toNatClampNeg → ∃ v : Value, am A (b + j) v H1 ∧ gm Y (f j) v := by
  intro j hj
  by_cases e : j = k.toNatClampNeg
  · subst e
    rw [← hi]
    exact ⟨_, he, hg⟩
  · obtain ⟨v, h1, h2⟩ := hinv j (by omega)
    exact ⟨v, hk _ _ (by omega) h1, h2⟩
theorem RTg_eq {ν ν' : Nat → Nat} {r : Nat} (h : [10, 31, 33, 36, 37, 41].contains r = false) : RTg ν' r = RTg ν r := by
  unfold RTg
  split <;> first | rfl | (simp at h)
theorem am_typed {D : va_G} {cl : List vw_C} {tys : List (ClassId × FieldType)} {Y : Nat → Option Nat} {t n : Nat} {f f' : Nat → tv} {a : Nat} {H : Heap} (h : ti_c D cl tys Y (.inr (t, n, f, fun _ => True)) a H) (h' : ∀ j : Nat, j < n → f' j = f j ∨ ∃ v : Value, am a j v H ∧ gm Y (f' j) v) : ti_c D cl tys Y (.inr (t, n, f', fun _ => True)) a H := by
  obtain ⟨cA, ty, g, h1, h2, h3, -⟩ := h
  refine ⟨cA, ty, g, h1, h2, fun j hj => ?_, trivial⟩
  rcases h' j hj with e | ⟨v, ⟨cB, n', g', e1, e2, e3⟩, hv⟩
  · have e : f' j = f j := e
    show gm Y (f' j) (g j)
    rw [e]
    exact h3 j hj
  · have e4 : arrV cA n g = arrV cB n' g' := Option.some.inj (h2.symm.trans e1)
    have e5 : g j = g' j := by
      have q1 := arrV_read cA g hj
      rw [e4, arrV_read cB g' e2] at q1
      exact (Option.some.inj q1).symm
    show gm Y (f' j) (g j)
    rw [e5, e3]
    exact hv
section NU
variable {D : va_G} {c0 : Nat → ClassId} {ν ν' : Nat → Nat} {Y : Nat → Option Nat} {H H1 : Heap} {a : Nat} {fs : List Value}
theorem nu_c {r : Nat} (h : ti_c D vwCl (tysOf c0) Y (RTg ν r) a H) (h10 : r ≠ 10) (h41 : r ≠ 41) (h0 : ∀ j, j < 3 → ν' j = ν j) (h4 : ν' 4 = ν 4) (h6 : ∀ j, j < 4 → ν' (6 + j) = ν (6 + j)) : ti_c D vwCl (tysOf c0) Y (RTg ν' r) a H := by
  by_cases e31 : r = 31
  · subst e31
    refine am_typed h (fun j hj => Or.inl ?_)
    have hj : j < 534 := hj
    show (if j % 178 < ν' (j / 178) then _ else _) = if j % 178 < ν (j / 178) then _ else _
    rw [h0 (j / 178) (by omega)]
  · by_cases e33 : r = 33
    · subst e33
      refine am_typed h (fun j hj => Or.inl ?_)
      show (if ν' j = 178 then _ else _) = if ν j = 178 then _ else _
      rw [h0 j hj]
    · by_cases e36 : r = 36
      · subst e36
        refine am_typed h (fun j hj => Or.inl ?_)
        show (if 96 ≤ j ∧ j < 160 ∧ 96 + ν' 4 ≤ j then _ else _) = if 96 ≤ j ∧ j < 160 ∧ 96 + ν 4 ≤ j then _ else _
        rw [h4]
      · by_cases e37 : r = 37
        · subst e37
          refine am_typed h (fun j hj => Or.inl ?_)
          show Sum.inl ((ν' (6 + j) : Int) - 1, (ν' (6 + j) : Int) - 1) = Sum.inl ((ν (6 + j) : Int) - 1, (ν (6 + j) : Int) - 1)
          rw [h6 j hj]
        · rw [RTg_eq (ν := ν) (ν' := ν') (r := r) (by simp [h10, h41, e31, e33, e36, e37])]
          exact h
theorem obj_put {fss : List tv} (hf : ∀ (k : Nat) (t : tv), fss[k]? = some t → ∃ v : Value, fs[k]? = some v ∧ gm Y t v) (hl : fs.length = fss.length) (k0 : Nat) (hk0 : k0 < fss.length) {t0 : tv} {v0 : Value} (hg : gm Y t0 v0) : ∀ (k : Nat) (t : tv), (fss.set k0 t0)[k]? = some t → ∃ v : Value, (fs.set k0 v0)[k]? = some v ∧ gm Y t v := by
  intro k t hk
  by_cases e : k = k0
  · subst e
    rw [List.getElem?_set_self hk0] at hk
    cases hk
    exact ⟨v0, List.getElem?_set_self (by omega), hg⟩
  · rw [List.getElem?_set_ne (Ne.symm e)] at hk
    obtain ⟨v, h1, h2⟩ := hf k t hk
    exact ⟨v, by rw [List.getElem?_set_ne (Ne.symm e)]; exact h1, h2⟩
def L10 (ν : Nat → Nat) : List tv := match RTg ν 10 with
  | .inl o => o.2.1
  | _ => []
theorem L10_eq : RTg ν 10 = .inl (10, L10 ν, fun _ => True) := rfl
theorem L10_set : L10 ν' = (L10 ν).set 19 (.inl ((ν' 5 : Int), (ν' 5 : Int))) := rfl
/-- deep is written: the table of role 10 changes -/
theorem deep_put (hU : uq Y) (hT : TI D vwCl (tysOf c0) (RTg ν) Y H) (ha : Y a = some 10) (hfs : ∀ (k : Nat) (t : tv), (L10 ν)[k]? = some t → ∃ v : Value, fs[k]? = some v ∧ gm Y t v) (hln : fs.length = 38) {x : Int32} (hat2 : va_at D vwCl (a, .inr (10, fs.set 19 (.int x))) H1) (oq : ∀ q : Nat, q ≠ a → H1[q]? = H[q]?) (hx : x.toInt = (ν' 5 : Int)) (h41 : ∀ b, Y b = some 41 → ti_c D vwCl (tysOf c0) Y (RTg ν' 41) b H) (h0 : ∀ j, j < 3 → ν' j = ν j) (h4 : ν' 4 = ν 4) (h6 : ∀ j, j < 4 → ν' (6 + j) = ν (6 + j)) : TI D vwCl (tysOf c0) (RTg ν') Y H1 := by
  intro b r hb
  by_cases e10 : r = 10
  · subst e10
    have e := hU 10 b a (by decide) hb ha
    subst e
    rw [L10_eq]
    refine ⟨_, hat2, by rw [List.length_set]; exact hln, ?_, trivial⟩
    show ∀ (k : Nat) (t : tv), (L10 ν')[k]? = some t → _
    rw [L10_set (ν := ν)]
    exact obj_put hfs (by rw [hln]; rfl) 19 (Nat.lt_of_lt_of_eq (by decide : 19 < 38) rfl) ⟨x, rfl, by rw [← hx]; exact ⟨Int.le_refl _, Int.le_refl _⟩⟩
  · have hne : b ≠ a := fun q => by subst q; cases hb.symm.trans ha; exact e10 rfl
    by_cases e41 : r = 41
    · subst e41
      exact (h41 b hb).kept (oq b hne)
    · exact (nu_c (hT b r hb) e10 e41 h0 h4 h6).kept (oq b hne)
theorem think_put (hU : uq Y) (h3 : ν 3 = 0) (hT : TI D vwCl (tysOf c0) (RTg ν) Y H) (ha : Y a = some 10) (hfs : ∀ (k : Nat) (t : tv), (L10 ν)[k]? = some t → ∃ v : Value, fs[k]? = some v ∧ gm Y t v) (hln : fs.length = 38) {x : Int32} (hx : iv x 1 1) (hat2 : va_at D vwCl (a, .inr (10, fs.set 19 (.int x))) H1) (oq : ∀ q : Nat, q ≠ a → H1[q]? = H[q]?) (hinv : ∀ q, Y q = some 41 → ∀ j : Nat, j < 178 → ∃ v : Value, am q (0 + j) v H ∧ gm Y (wfg j) v) : TI D vwCl (tysOf c0) (RTg (νt ν)) Y H1 := by
  refine deep_put hU hT ha hfs hln hat2 oq (ν' := νt ν) (by obtain ⟨a1, a2⟩ := hx; show x.toInt = 1; omega) (fun b hb => ?_) (fun j hj => ?_) rfl (fun j _ => ?_)
  · refine am_typed (hT b 41 hb) (fun j hj => ?_)
    by_cases hj2 : j < 178
    · right
      obtain ⟨v, g1, g2⟩ := hinv b hb j hj2
      rw [Nat.zero_add] at g1
      refine ⟨v, g1, ?_⟩
      show gm Y (if j < 178 then wfg j else _) v
      rw [if_pos hj2]
      exact g2
    · left
      show (if j < 178 then wfg j else _) = if j < ν 3 then wfg j else _
      rw [if_neg hj2, h3, if_neg (by omega)]
  · show (if j = 3 then 178 else if j = 5 then 1 else ν j) = ν j
    rw [if_neg (by omega), if_neg (by omega)]
  · show (if 6 + j = 3 then 178 else if 6 + j = 5 then 1 else ν (6 + j)) = ν (6 + j)
    rw [if_neg (by omega), if_neg (by omega)]
theorem wake_put (hU : uq Y) (hT : TI D vwCl (tysOf c0) (RTg ν) Y H) (ha : Y a = some 10) (hfs : ∀ (k : Nat) (t : tv), (L10 ν)[k]? = some t → ∃ v : Value, fs[k]? = some v ∧ gm Y t v) (hln : fs.length = 38) {x : Int32} (hx : iv x 0 0) (hat2 : va_at D vwCl (a, .inr (10, fs.set 19 (.int x))) H1) (oq : ∀ q : Nat, q ≠ a → H1[q]? = H[q]?) : TI D vwCl (tysOf c0) (RTg (νd ν)) Y H1 := by
  refine deep_put hU hT ha hfs hln hat2 oq (ν' := νd ν) (by obtain ⟨a1, a2⟩ := hx; show x.toInt = 0; omega) (fun b hb => hT b 41 hb) (fun j hj => ?_) rfl (fun j _ => ?_)
  · show (if j = 5 then 0 else ν j) = ν j
    rw [if_neg (by omega)]
  · show (if 6 + j = 5 then 0 else ν (6 + j)) = ν (6 + j)
    rw [if_neg (by omega)]
/-- types that no longer hold are given up -/
theorem nu_weak (hT : TI D vwCl (tysOf c0) (RTg ν) Y H) (h5 : ν' 5 = ν 5) (h41 : ∀ b, Y b = some 41 → ti_c D vwCl (tysOf c0) Y (RTg ν' 41) b H) (h0 : ∀ j, j < 3 → ν' j = ν j) (h36 : ∀ b, Y b = some 36 → ti_c D vwCl (tysOf c0) Y (RTg ν' 36) b H) (h6 : ∀ j, j < 4 → ν' (6 + j) = ν (6 + j)) : TI D vwCl (tysOf c0) (RTg ν') Y H := by
  intro b r hb
  by_cases e10 : r = 10
  · subst e10
    have h := hT b 10 hb
    rw [L10_eq] at h ⊢
    obtain ⟨fs, g1, g2, g3, -⟩ := h
    refine ⟨fs, g1, g2.trans rfl, ?_, trivial⟩
    show ∀ (k : Nat) (t : tv), (L10 ν')[k]? = some t → _
    rw [show L10 ν' = L10 ν by rw [L10_set (ν := ν) (ν' := ν'), h5]; rfl]
    exact g3
  · by_cases e41 : r = 41
    · subst e41; exact h41 b hb
    · by_cases e36 : r = 36
      · subst e36; exact h36 b hb
      · have hz := hT b r hb
        by_cases e31 : r = 31
        · subst e31
          refine am_typed hz (fun j hj => Or.inl ?_)
          have hj : j < 534 := hj
          show (if j % 178 < ν' (j / 178) then _ else _) = if j % 178 < ν (j / 178) then _ else _
          rw [h0 (j / 178) (by omega)]
        · by_cases e33 : r = 33
          · subst e33
            refine am_typed hz (fun j hj => Or.inl ?_)
            show (if ν' j = 178 then _ else _) = if ν j = 178 then _ else _
            rw [h0 j hj]
          · by_cases e37 : r = 37
            · subst e37
              refine am_typed hz (fun j hj => Or.inl ?_)
              show Sum.inl ((ν' (6 + j) : Int) - 1, (ν' (6 + j) : Int) - 1) = Sum.inl ((ν (6 + j) : Int) - 1, (ν (6 + j) : Int) - 1)
              rw [h6 j hj]
            · rw [RTg_eq (ν := ν) (ν' := ν') (r := r) (by simp [e10, e41, e31, e33, e36, e37])]
              exact hz
theorem am_of {t n j : Nat} {f : Nat → tv} {P : (Nat → Value) → Prop} (h : ti_c D vwCl (tysOf c0) Y (.inr (t, n, f, P)) a H) (hj : j < n) : ∃ v : Value, am a j v H ∧ gm Y (f j) v := by
  obtain ⟨cA, ty, g, h1, h2, h3, -⟩ := h
  exact ⟨g j, ⟨cA, n, g, h2, hj, rfl⟩, h3 j hj⟩
theorem gm_top {t : tv} {u w : Int} {v : Value} (h : gm Y t v) (e : t = .inl (u, w)) : gm Y (.inl (-2147483648, 2147483647)) v := by
  subst e
  obtain ⟨x, e1, -⟩ := h
  exact ⟨x, e1, iv_top x⟩
theorem wake_end (hT : TI D vwCl (tysOf c0) (RTg (νd ν)) Y H) : TI D vwCl (tysOf c0) (RTg (νw ν)) Y H := by
  refine nu_weak hT rfl (fun b hb => ?_) (fun j hj => ?_) (fun b hb => hT b 36 hb) (fun j hj => ?_)
  · refine am_typed (hT b 41 hb) (fun j hj => Or.inr ?_)
    obtain ⟨v, g1, g2⟩ := am_of (hT b 41 hb) hj
    refine ⟨v, g1, ?_⟩
    show gm Y (if j < 0 then wfg j else .inl (-2147483648, 2147483647)) v
    rw [if_neg (Nat.not_lt_zero _)]
    have g2 : gm Y (if j < ν 3 then wfg j else .inl (-2147483648, 2147483647)) v := g2
    split at g2
    · obtain ⟨u, w, e⟩ := wfg_i j
      exact gm_top g2 e
    · exact g2
  · show (if j = 3 then 0 else if j = 5 then 0 else ν j) = if j = 5 then 0 else ν j
    rw [if_neg (by omega)]
  · show (if 6 + j = 3 then 0 else if 6 + j = 5 then 0 else ν (6 + j)) = if 6 + j = 5 then 0 else ν (6 + j)
    rw [if_neg (by omega)]
theorem fresh_on (hU : uq Y) (h4 : ν 4 = 0) (hT : TI D vwCl (tysOf c0) (RTg ν) Y H) (hinv : ∀ q, Y q = some 36 → ∀ j : Nat, j < 64 → ∃ v : Value, am q (96 + j) v H ∧ gm Y (.inl (1, 1)) v) : TI D vwCl (tysOf c0) (RTg (νf ν)) Y H := by
  refine nu_weak hT rfl (fun b hb => hT b 41 hb) (fun j hj => ?_) (fun b hb => ?_) (fun j hj => ?_)
  · show (if j = 4 then 64 else ν j) = ν j
    rw [if_neg (by omega)]
  · refine am_typed (hT b 36 hb) (fun j hj => ?_)
    by_cases hr : 96 ≤ j ∧ j < 160
    · right
      obtain ⟨v, g1, x, e1, x1, x2⟩ := hinv b hb (j - 96) (by omega)
      rw [show 96 + (j - 96) = j by omega] at g1
      refine ⟨v, g1, ?_⟩
      show gm Y (if 96 ≤ j ∧ j < 160 ∧ 96 + 64 ≤ j then _ else wfg j) v
      rw [if_neg (by omega)]
      have ew : wfg j = .inl (1, 30) := by
        unfold wfg
        rw [if_neg (by omega), if_neg (by omega), if_neg (by omega), if_neg (by omega), if_neg (by omega), if_pos (by omega)]
      rw [ew]
      have x1 : (1 : Int) ≤ x.toInt := x1
      have x2 : x.toInt ≤ 1 := x2
      exact ⟨x, e1, by show (1 : Int) ≤ _; omega, by show _ ≤ (30 : Int); omega⟩
    · left
      show (if 96 ≤ j ∧ j < 160 ∧ 96 + 64 ≤ j then _ else wfg j) = if 96 ≤ j ∧ j < 160 ∧ 96 + ν 4 ≤ j then _ else wfg j
      rw [if_neg (by omega), if_neg (by omega)]
  · show (if 6 + j = 4 then 64 else ν (6 + j)) = ν (6 + j)
    rw [if_neg (by omega)]
theorem fresh_off (h4 : ν 4 = 0) (hT : TI D vwCl (tysOf c0) (RTg (νf ν)) Y H) : TI D vwCl (tysOf c0) (RTg ν) Y H := by
  refine nu_weak hT rfl (fun b hb => hT b 41 hb) (fun j hj => ?_) (fun b hb => ?_) (fun j hj => ?_)
  · show ν j = if j = 4 then 64 else ν j
    rw [if_neg (by omega)]
  · refine am_typed (hT b 36 hb) (fun j hj => Or.inr ?_)
    obtain ⟨v, g1, g2⟩ := am_of (hT b 36 hb) hj
    refine ⟨v, g1, ?_⟩
    have g2 : gm Y (if 96 ≤ j ∧ j < 160 ∧ 96 + 64 ≤ j then .inl (-2147483648, 2147483647) else wfg j) v := g2
    rw [if_neg (by omega)] at g2
    show gm Y (if 96 ≤ j ∧ j < 160 ∧ 96 + ν 4 ≤ j then .inl (-2147483648, 2147483647) else wfg j) v
    split
    · obtain ⟨u, w, e⟩ := wfg_i j
      exact gm_top g2 e
    · exact g2
  · show ν (6 + j) = if 6 + j = 4 then 64 else ν (6 + j)
    rw [if_neg (by omega)]
end NU
theorem many_e {Y : Nat → Option Nat} {k : Int} {x : Int32} (h : gm Y (.inl (k, k)) (.int x)) : x.toInt = k := by
  obtain ⟨y, e, h1, h2⟩ := h
  cases e
  have h1 : k ≤ x.toInt := h1
  have h2 : x.toInt ≤ k := h2
  omega
theorem many_iv {ν : Nat → Nat} {x i : Int32} {a b : Int} (hb : ∀ j, j < 4 → ν (6 + j) ≤ 61) (h : x.toInt = (ν (6 + i.toNatClampNeg) : Int) - 1) (hi : iv i a b) (hn : (decide (0 ≤ a) && decide (b < 4)) = true) : iv x (-1) 60 := by
  simp only [Bool.and_eq_true, decide_eq_true_eq] at hn
  obtain ⟨h1, h2⟩ := hi
  have e : i.toNatClampNeg = i.toInt.toNat := rfl
  have := hb i.toNatClampNeg (by rw [e]; omega)
  exact ⟨by omega, by omega⟩
/-- what the world holds at a place -/
def wv (D : va_G) (a j : Nat) (x : Int32) (H : Heap) : Prop := ∃ aw : Nat, fi D vwCl a 10 1 (.ref aw) H ∧ am aw j (.int x) H
theorem fi_inj {D : va_G} {a ci k : Nat} {v v' : Value} {H : Heap} {q : vw_C} (h : fi D vwCl a ci k v H) (h' : fi D vwCl a ci k v' H) (hc : vwCl[ci]? = some q) (hk : k < q.2.2) : v = v' := by
  obtain ⟨fs, g1, g2, g3⟩ := h
  have e := fi_of g1 h' hc hk (g3 q hc)
  exact Option.some.inj (g2.symm.trans e)
theorem am_inj {a j : Nat} {v v' : Value} {H : Heap} (h : am a j v H) (h' : am a j v' H) : v = v' := by
  obtain ⟨cA, n, g, h1, h2, h3⟩ := h
  obtain ⟨cB, n', g', h1', h2', h3'⟩ := h'
  have e4 : arrV cA n g = arrV cB n' g' := Option.some.inj (h1.symm.trans h1')
  have q1 := arrV_read cA g h2
  rw [e4, arrV_read cB g' h2'] at q1
  rw [← h3, ← h3']
  exact (Option.some.inj q1).symm
theorem wv_at {D : va_G} {a aw j : Nat} {x y : Int32} {H : Heap} (h : wv D a j x H) (h1 : fi D vwCl a 10 1 (.ref aw) H) (h2 : am aw j (.int y) H) : y = x := by
  obtain ⟨aw', g1, g2⟩ := h
  cases fi_inj h1 g1 (q := (RX10, TX10, 38)) rfl (by decide)
  cases am_inj h2 g2
  rfl
theorem wv_eq {D : va_G} {a j j' : Nat} {x y : Int32} {H : Heap} (h : wv D a j x H) (h' : wv D a j' y H) (e : j' = j) : y = x := by
  obtain ⟨aw, g1, g2⟩ := h'
  subst e
  exact wv_at h g1 g2
theorem loan_ld : ∀ k : Nat, k < 6 → wfg (160 + 3 * k) = .inl (0, 7) ∧ wfg (160 + 3 * k + 1) = .inl (0, 7) ∧ wfg (160 + 3 * k + 2) = .inl (-2147483648, 2147483647) := by decide
theorem gm_iv {Y : Nat → Option Nat} {j j' : Nat} {lo hi : Int} {x : Int32} (h : gm Y (wfg j) (.int x)) (e : j = j') (q : wfg j' = .inl (lo, hi)) : iv x lo hi := by
  subst e
  rw [q] at h
  obtain ⟨y, e, h1⟩ := h
  cases e
  exact h1
theorem gm_mk {Y : Nat → Option Nat} {j j' : Nat} {lo hi : Int} {x : Int32} (e : j = j') (q : wfg j' = .inl (lo, hi)) (h : iv x lo hi) : gm Y (wfg j) (.int x) := by
  subst e
  rw [q]
  exact ⟨x, rfl, h⟩
theorem wfg_w (j : Nat) (h1 : 96 ≤ j) (h2 : j < 160) : wfg j = .inl (1, 30) := by
  unfold wfg
  rw [if_neg (by omega), if_neg (by omega), if_neg (by omega), if_neg (by omega), if_neg (by omega), if_pos (by omega)]
theorem fr_w {ν : Nat → Nat} {lo hi : Int} (h1 : 1 ≤ lo) (h2 : hi ≤ 30) : ∀ j : Nat, (96 : Int) ≤ (j : Int) → (j : Int) ≤ 159 → ∃ u w : Int, (if 96 ≤ j ∧ j < 160 ∧ 96 + ν 4 ≤ j then (.inl (-2147483648, 2147483647) : tv) else wfg j) = .inl (u, w) ∧ u ≤ lo ∧ hi ≤ w := by
  intro j a b
  split
  · exact ⟨_, _, rfl, by omega, by omega⟩
  · rw [wfg_w j (by omega) (by omega)]
    exact ⟨_, _, rfl, h1, h2⟩
theorem wfg_0 (j : Nat) (h : ¬ (96 ≤ j ∧ j < 160)) : ∃ u w : Int, wfg j = .inl (u, w) ∧ u ≤ 0 ∧ 0 ≤ w := by
  unfold wfg
  repeat' split
  all_goals first | exact ⟨_, _, rfl, by decide, by decide⟩ | (exfalso; omega)
theorem fr_z {ν : Nat → Nat} (h4 : ν 4 = 0) : ∀ j : Nat, (0 : Int) ≤ (j : Int) → (j : Int) ≤ 177 → ∃ u w : Int, (if 96 ≤ j ∧ j < 160 ∧ 96 + ν 4 ≤ j then (.inl (-2147483648, 2147483647) : tv) else wfg j) = .inl (u, w) ∧ u ≤ 0 ∧ 0 ≤ w := by
  intro j a b
  split
  · exact ⟨_, _, rfl, by decide, by decide⟩
  · exact wfg_0 j (by omega)
theorem kept_st {ν : Nat → Nat} (h3 : ν 3 = 0) {b d lo hi : Int} (h1 : -2147483648 ≤ lo) (h2 : hi ≤ 2147483647) : ∀ j : Nat, b ≤ (j : Int) → (j : Int) ≤ d → ∃ u w : Int, (if j < ν 3 then wfg j else (.inl (-2147483648, 2147483647) : tv)) = .inl (u, w) ∧ u ≤ lo ∧ hi ≤ w := by
  intro j _ _
  rw [h3, if_neg (Nat.not_lt_zero _)]
  exact ⟨_, _, rfl, h1, h2⟩
theorem kept_i {n : Nat} (j : Nat) : ∃ u w : Int, (if j < n then wfg j else (.inl (-2147483648, 2147483647) : tv)) = .inl (u, w) := by
  split
  · exact wfg_i j
  · exact ⟨_, _, rfl⟩
theorem img_i {ν : Nat → Nat} (j : Nat) : ∃ u w : Int, (if j % 178 < ν (j / 178) then wfg (j % 178) else (.inl (-2147483648, 2147483647) : tv)) = .inl (u, w) := by
  split
  · exact wfg_i _
  · exact ⟨_, _, rfl⟩
theorem frs_i {ν : Nat → Nat} (j : Nat) : ∃ u w : Int, (if 96 ≤ j ∧ j < 160 ∧ 96 + ν 4 ≤ j then (.inl (-2147483648, 2147483647) : tv) else wfg j) = .inl (u, w) := by
  split
  · exact ⟨_, _, rfl⟩
  · exact wfg_i j
theorem flag_i {ν : Nat → Nat} (j : Nat) : ∃ u w : Int, (if ν j = 178 then (.inl (1, 1) : tv) else .inl (0, 0)) = .inl (u, w) := by
  split <;> exact ⟨_, _, rfl⟩
theorem kept_g {Y : Nat → Option Nat} {n j k : Nat} {v : Value} (h : gm Y (if j < n then wfg j else (.inl (-2147483648, 2147483647) : tv)) v) (hn : n = 178) (e : j = k) (hk : k < 178) : gm Y (wfg k) v := by
  subst e
  rw [hn, if_pos hk] at h
  exact h
theorem img_g {Y : Nat → Option Nat} {ν : Nat → Nat} {j k i : Nat} {v : Value} (h : gm Y (if j % 178 < ν (j / 178) then wfg (j % 178) else (.inl (-2147483648, 2147483647) : tv)) v) (hn : ν k = 178) (e : j = 178 * k + i) (hi : i < 178) : gm Y (wfg i) v := by
  subst e
  rw [show (178 * k + i) % 178 = i by omega, show (178 * k + i) / 178 = k by omega, hn, if_pos hi] at h
  exact h
theorem img_p {Y : Nat → Option Nat} {ν : Nat → Nat} {j k i : Nat} {v : Value} (h : gm Y (wfg i) v) (e : j = 178 * k + i) (hi : i < 178) : gm Y (if j % 178 < ν (j / 178) then wfg (j % 178) else (.inl (-2147483648, 2147483647) : tv)) v := by
  subst e
  rw [show (178 * k + i) % 178 = i by omega]
  split
  · exact h
  · obtain ⟨u, w, q⟩ := wfg_i i
    exact gm_top h q
theorem frs_g {Y : Nat → Option Nat} {j k : Nat} {v : Value} (h : gm Y (if 96 ≤ j ∧ j < 160 ∧ 96 + 64 ≤ j then (.inl (-2147483648, 2147483647) : tv) else wfg j) v) (e : j = k) : gm Y (wfg k) v := by
  subst e
  rw [if_neg (by omega)] at h
  exact h
theorem flag_g {Y : Nat → Option Nat} {n : Nat} {x : Int32} (h : gm Y (if n = 178 then (.inl (1, 1) : tv) else .inl (0, 0)) (.int x)) : iv x 0 1 ∧ (¬ x.toInt = 0 → n = 178) := by
  split at h
  · next e =>
    obtain ⟨y, q, h1, h2⟩ := h
    cases q
    have h1 : (1 : Int) ≤ x.toInt := h1
    have h2 : x.toInt ≤ 1 := h2
    exact ⟨⟨by omega, by omega⟩, fun _ => e⟩
  · obtain ⟨y, q, h1, h2⟩ := h
    cases q
    have h1 : (0 : Int) ≤ x.toInt := h1
    have h2 : x.toInt ≤ 0 := h2
    exact ⟨⟨by omega, by omega⟩, fun z => absurd (by omega) z⟩
theorem best_rel {D : va_G} {c0 : Nat → ClassId} {ν : Nat → Nat} {Y : Nat → Option Nat} {H : Heap} {a : Nat} {g t : Int32} (hT : TI D vwCl (tysOf c0) (RTg ν) Y H) (ha : Y a = some 43) (h3 : am a 3 (.int g) H) (h4 : am a 4 (.int t) H) : 1 ≤ g.toInt → 0 ≤ t.toInt := by
  obtain ⟨cA, ty, f, h1, h2, -, hp⟩ := ti_arr hT ha rfl
  have e3 := am_inj h3 ⟨cA, _, f, h2, by decide, rfl⟩
  have e4 := am_inj h4 ⟨cA, _, f, h2, by decide, rfl⟩
  exact hp g t e3.symm e4.symm
theorem act_step {A B : Nat} {H H1 : Heap} {k k' : Int32} {x : Int32} (hinv : ∀ j : Nat, j < k.toNatClampNeg → ∃ v : Value, am A j v H ∧ am B j v H) (he : am A k.toNatClampNeg (.int x) H1) (hk : ∀ (j : Nat) (v' : Value), j ≠ k.toNatClampNeg → am A j v' H → am A j v' H1) (hB : H1[B]? = H[B]?) (hm : am B k.toNatClampNeg (.int x) H) (hk' : k'.toNatClampNeg = k.toNatClampNeg + 1) : ∀ j : Nat, j < k'.toNatClampNeg → ∃ v : Value, am A j v H1 ∧ am B j v H1 := by
  intro j hj
  by_cases e : j = k.toNatClampNeg
  · subst e
    exact ⟨_, he, hm.kept hB⟩
  · obtain ⟨v, h1, h2⟩ := hinv j (by omega)
    exact ⟨v, hk _ _ e h1, h2.kept hB⟩
theorem b5_i (j : Nat) : ∃ u w : Int, (if j = 4 then (.inl (-1, 7) : tv) else .inl (-2147483648, 2147483647)) = .inl (u, w) := by
  split <;> exact ⟨_, _, rfl⟩
theorem model_best {D : va_G} {c0 : Nat → ClassId} {ν : Nat → Nat} {Y : Nat → Option Nat} {H : Heap} {a : Nat} (hT : TI D vwCl (tysOf c0) (RTg ν) Y H) (ha : Y a = some 10) : ∃ b, Y b = some 43 := by
  obtain ⟨fs, -, -, h3, -⟩ := ti_obj hT ha rfl
  obtain ⟨v, -, q, -, hq⟩ := h3 24 _ rfl
  exact ⟨q, hq⟩
/-- bestAct's third and fourth together -/
theorem best_put {D : va_G} {c0 : Nat → ClassId} {ν : Nat → Nat} {Y : Nat → Option Nat} {H H1 H2 : Heap} {a : Nat} {g t : Int32} {f f2 : Nat → Value} {cA cB : ClassId} (hT : TI D vwCl (tysOf c0) (RTg ν) Y H) (ha : Y a = some 43) (hA : cA = c0 0) (hB : cB = c0 0) (hf : ∀ j : Nat, j < 5 → gm Y (if j = 4 then (.inl (-1, 7) : tv) else .inl (-2147483648, 2147483647)) (f j)) (e1 : H1[a]? = some (arrV cA 5 (updV f 3 (.int g)))) (e2 : H2[a]? = some (arrV cB 5 (updV (updV f 3 (.int g)) 4 (.int t)))) (o1 : ∀ q : Nat, q ≠ a → H1[q]? = H[q]?) (o2 : ∀ q : Nat, q ≠ a → H2[q]? = H1[q]?) (ht : iv t (-1) 7) (hr : 1 ≤ g.toInt → 0 ≤ t.toInt) : TI D vwCl (tysOf c0) (RTg ν) Y H2 := by
  refine hT.put ha ?_ (fun q hq => (o2 q hq).trans (o1 q hq))
  subst hB
  refine ⟨c0 0, .int, _, rfl, e2, fun j hj => ?_, ?_⟩
  · show gm Y (if j = 4 then (.inl (-1, 7) : tv) else .inl (-2147483648, 2147483647)) (updV (updV f 3 (.int g)) 4 (.int t) j)
    by_cases e4 : j = 4
    · subst e4
      exact ⟨t, by simp [updV], ht⟩
    · by_cases e3 : j = 3
      · subst e3
        exact ⟨g, by simp [updV], iv_top g⟩
      · rw [show updV (updV f 3 (.int g)) 4 (.int t) j = f j by simp [updV, e3, e4]]
        exact hf j hj
  · intro x y q1 q2
    have z1 : updV (updV f 3 (.int g)) 4 (.int t) 3 = .int g := by simp [updV]
    have z2 : updV (updV f 3 (.int g)) 4 (.int t) 4 = .int t := by simp [updV]
    cases z1.symm.trans q1
    cases z2.symm.trans q2
    exact hr
/-- hasImage's flag is set once the image is whole -/
theorem keep_put {D : va_G} {c0 : Nat → ClassId} {ν : Nat → Nat} {Y : Nat → Option Nat} {H H1 : Heap} {a k : Nat} {f : Nat → Value} {cA : ClassId} {ty : FieldType} (hU : uq Y) (hT : TI D vwCl (tysOf c0) (RTg ν) Y H) (ha : Y a = some 33) (hk : k < 3) (hc : (tysOf c0)[2]? = some (cA, ty)) (hf : ∀ j : Nat, j < 3 → gm Y (if ν j = 178 then (.inl (1, 1) : tv) else .inl (0, 0)) (f j)) {x : Int32} (hx : iv x 1 1) (e1 : H1[a]? = some (arrV cA 3 (updV f k (.int x)))) (o1 : ∀ q : Nat, q ≠ a → H1[q]? = H[q]?) (hinv : ∀ q, Y q = some 31 → ∀ j : Nat, j < 178 → ∃ v : Value, am q (178 * k + j) v H ∧ gm Y (wfg j) v) : TI D vwCl (tysOf c0) (RTg (νk ν k 178)) Y H1 := by
  intro b r hb
  by_cases e33 : r = 33
  · subst e33
    have e := hU 33 b a (by decide) hb ha
    subst e
    refine ⟨cA, ty, _, hc, e1, fun j hj => ?_, trivial⟩
    show gm Y (if (if j = k then 178 else ν j) = 178 then (.inl (1, 1) : tv) else .inl (0, 0)) (updV f k (.int x) j)
    by_cases ej : j = k
    · subst ej
      rw [if_pos rfl, if_pos rfl]
      exact ⟨x, by simp [updV], hx⟩
    · rw [if_neg ej, show updV f k (.int x) j = f j by simp [updV, ej]]
      exact hf j hj
  · have hne : b ≠ a := fun q => by subst q; cases hb.symm.trans ha; exact e33 rfl
    refine ti_c.kept ?_ (o1 b hne)
    have hz := hT b r hb
    by_cases e31 : r = 31
    · subst e31
      refine am_typed hz (fun j hj => ?_)
      have hj : j < 534 := hj
      by_cases ek : j / 178 = k
      · right
        obtain ⟨v, g1, g2⟩ := hinv b hb (j % 178) (by omega)
        rw [show 178 * k + j % 178 = j by omega] at g1
        refine ⟨v, g1, ?_⟩
        show gm Y (if j % 178 < (if j / 178 = k then 178 else ν (j / 178)) then wfg (j % 178) else _) v
        rw [if_pos ek, if_pos (by omega)]
        exact g2
      · left
        show (if j % 178 < (if j / 178 = k then 178 else ν (j / 178)) then wfg (j % 178) else _) = if j % 178 < ν (j / 178) then wfg (j % 178) else _
        rw [if_neg ek]
    · by_cases e10 : r = 10
      · subst e10
        have h := hz
        rw [L10_eq] at h ⊢
        rw [show L10 (νk ν k 178) = L10 ν by rw [L10_set (ν := ν) (ν' := νk ν k 178), show νk ν k 178 5 = ν 5 by show (if 5 = k then 178 else ν 5) = ν 5; rw [if_neg (by omega)]]; rfl]
        exact h
      · by_cases e41 : r = 41
        · subst e41
          refine am_typed hz (fun j hj => Or.inl ?_)
          show (if j < (if 3 = k then 178 else ν 3) then wfg j else _) = if j < ν 3 then wfg j else _
          rw [if_neg (show ¬ 3 = k by omega)]
        · by_cases e36 : r = 36
          · subst e36
            refine am_typed hz (fun j hj => Or.inl ?_)
            show (if 96 ≤ j ∧ j < 160 ∧ 96 + (if 4 = k then 178 else ν 4) ≤ j then _ else _) = if 96 ≤ j ∧ j < 160 ∧ 96 + ν 4 ≤ j then _ else _
            rw [if_neg (show ¬ 4 = k by omega)]
          · by_cases e37 : r = 37
            · subst e37
              refine am_typed hz (fun j hj => Or.inl ?_)
              show Sum.inl (((if 6 + j = k then 178 else ν (6 + j) : Nat) : Int) - 1, ((if 6 + j = k then 178 else ν (6 + j) : Nat) : Int) - 1) = Sum.inl ((ν (6 + j) : Int) - 1, (ν (6 + j) : Int) - 1)
              rw [if_neg (show ¬ 6 + j = k by omega)]
            · rw [RTg_eq (ν := ν) (ν' := νk ν k 178) (r := r) (by simp [e10, e41, e31, e33, e36, e37])]
              exact hz
/-- many is written: its ghost with it -/
theorem row_put {D : va_G} {c0 : Nat → ClassId} {ν : Nat → Nat} {Y : Nat → Option Nat} {H H1 : Heap} {a k n : Nat} {f : Nat → Value} {cA : ClassId} {ty : FieldType} (hU : uq Y) (hT : TI D vwCl (tysOf c0) (RTg ν) Y H) (ha : Y a = some 37) (hk : k < 4) (hc : (tysOf c0)[0]? = some (cA, ty)) (hf : ∀ j : Nat, j < 4 → gm Y (.inl ((ν (6 + j) : Int) - 1, (ν (6 + j) : Int) - 1)) (f j)) {x : Int32} (hx : x.toInt = (n : Int) - 1) (e1 : H1[a]? = some (arrV cA 4 (updV f k (.int x)))) (o1 : ∀ q : Nat, q ≠ a → H1[q]? = H[q]?) : TI D vwCl (tysOf c0) (RTg (νk ν (6 + k) n)) Y H1 := by
  intro b r hb
  by_cases e37 : r = 37
  · subst e37
    have e := hU 37 b a (by decide) hb ha
    subst e
    refine ⟨cA, ty, _, hc, e1, fun j hj => ?_, trivial⟩
    show gm Y (.inl (((if 6 + j = 6 + k then n else ν (6 + j) : Nat) : Int) - 1, ((if 6 + j = 6 + k then n else ν (6 + j) : Nat) : Int) - 1)) (updV f k (.int x) j)
    by_cases ej : j = k
    · subst ej
      rw [if_pos rfl]
      exact ⟨x, by simp [updV], by rw [← hx]; exact ⟨Int.le_refl _, Int.le_refl _⟩⟩
    · rw [if_neg (show ¬ 6 + j = 6 + k by omega), show updV f k (.int x) j = f j by simp [updV, ej]]
      exact hf j hj
  · have hne : b ≠ a := fun q => by subst q; cases hb.symm.trans ha; exact e37 rfl
    refine ti_c.kept ?_ (o1 b hne)
    have hz := hT b r hb
    by_cases e10 : r = 10
    · subst e10
      have h := hz
      rw [L10_eq] at h ⊢
      rw [show L10 (νk ν (6 + k) n) = L10 ν by rw [L10_set (ν := ν) (ν' := νk ν (6 + k) n), show νk ν (6 + k) n 5 = ν 5 by show (if 5 = 6 + k then n else ν 5) = ν 5; rw [if_neg (by omega)]]; rfl]
      exact h
    · by_cases e41 : r = 41
      · subst e41
        refine am_typed hz (fun j hj => Or.inl ?_)
        show (if j < (if 3 = 6 + k then n else ν 3) then wfg j else _) = if j < ν 3 then wfg j else _
        rw [if_neg (show ¬ 3 = 6 + k by omega)]
      · have hz2 : r ≠ 37 := e37
        by_cases e31 : r = 31
        · subst e31
          refine am_typed hz (fun j hj => Or.inl ?_)
          have hj : j < 534 := hj
          show (if j % 178 < (if j / 178 = 6 + k then n else ν (j / 178)) then wfg (j % 178) else _) = if j % 178 < ν (j / 178) then wfg (j % 178) else _
          rw [if_neg (show ¬ j / 178 = 6 + k by omega)]
        · by_cases e33 : r = 33
          · subst e33
            refine am_typed hz (fun j hj => Or.inl ?_)
            have hj : j < 3 := hj
            show (if (if j = 6 + k then n else ν j) = 178 then _ else _) = if ν j = 178 then _ else _
            rw [if_neg (show ¬ j = 6 + k by omega)]
          · by_cases e36 : r = 36
            · subst e36
              refine am_typed hz (fun j hj => Or.inl ?_)
              show (if 96 ≤ j ∧ j < 160 ∧ 96 + (if 4 = 6 + k then n else ν 4) ≤ j then _ else _) = if 96 ≤ j ∧ j < 160 ∧ 96 + ν 4 ≤ j then _ else _
              rw [if_neg (show ¬ 4 = 6 + k by omega)]
            · rw [RTg_eq (ν := ν) (ν' := νk ν (6 + k) n) (r := r) (by simp [e10, e41, e31, e33, e36, e37])]
              exact hz
