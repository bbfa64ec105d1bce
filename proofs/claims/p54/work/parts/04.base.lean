/-! Typed heaps: every cell that a map of roles names keeps its role's type (bounds of its ints, roles of its references). -/
def iv (x : Int32) (lo hi : Int) : Prop := lo ≤ x.toInt ∧ x.toInt ≤ hi
theorem iv_top (x : Int32) : iv x (-2147483648) 2147483647 := by
  have h1 := Int32.le_toInt x
  have h2 := Int32.toInt_lt x
  exact ⟨by omega, by omega⟩
theorem iv_w {x : Int32} {a b c d : Int} (h : iv x a b) (hn : (decide (c ≤ a) && decide (b ≤ d)) = true) : iv x c d := by
  obtain ⟨h1, h2⟩ := h
  simp only [Bool.and_eq_true, decide_eq_true_eq] at hn
  exact ⟨by omega, by omega⟩
theorem iv_bm {n : Int} (h1 : -2147483648 ≤ n) (h2 : n ≤ 2147483647) : n.bmod (2 ^ 32) = n := Int.bmod_eq_of_le_mul_two (by omega) (by omega)
theorem iv_addE {x y : Int32} {a b c d : Int} (hx : iv x a b) (hy : iv y c d) (hn : (decide (-2147483648 ≤ a + c) && decide (b + d ≤ 2147483647)) = true) : (x + y).toInt = x.toInt + y.toInt := by
  obtain ⟨h1, h2⟩ := hx
  obtain ⟨h3, h4⟩ := hy
  simp only [Bool.and_eq_true, decide_eq_true_eq] at hn
  rw [Int32.toInt_add]
  exact iv_bm (by omega) (by omega)
theorem iv_subE {x y : Int32} {a b c d : Int} (hx : iv x a b) (hy : iv y c d) (hn : (decide (-2147483648 ≤ a - d) && decide (b - c ≤ 2147483647)) = true) : (x - y).toInt = x.toInt - y.toInt := by
  obtain ⟨h1, h2⟩ := hx
  obtain ⟨h3, h4⟩ := hy
  simp only [Bool.and_eq_true, decide_eq_true_eq] at hn
  rw [Int32.toInt_sub]
  exact iv_bm (by omega) (by omega)
theorem iv_add {x y : Int32} {a b c d : Int} (hx : iv x a b) (hy : iv y c d) (hn : (decide (-2147483648 ≤ a + c) && decide (b + d ≤ 2147483647)) = true) : iv (x + y) (a + c) (b + d) := by
  have e := iv_addE hx hy hn
  obtain ⟨h1, h2⟩ := hx
  obtain ⟨h3, h4⟩ := hy
  exact ⟨by omega, by omega⟩
theorem iv_sub {x y : Int32} {a b c d : Int} (hx : iv x a b) (hy : iv y c d) (hn : (decide (-2147483648 ≤ a - d) && decide (b - c ≤ 2147483647)) = true) : iv (x - y) (a - d) (b - c) := by
  have e := iv_subE hx hy hn
  obtain ⟨h1, h2⟩ := hx
  obtain ⟨h3, h4⟩ := hy
  exact ⟨by omega, by omega⟩
/-- a product of bounded numbers lies between the least and the greatest corner -/
theorem iv_mulc {u v a b c d lo hi : Int} (h1 : a ≤ u) (h2 : u ≤ b) (h3 : c ≤ v) (h4 : v ≤ d) (k1 : lo ≤ a * c) (k2 : lo ≤ a * d) (k3 : lo ≤ b * c) (k4 : lo ≤ b * d) (m1 : a * c ≤ hi) (m2 : a * d ≤ hi) (m3 : b * c ≤ hi) (m4 : b * d ≤ hi) : lo ≤ u * v ∧ u * v ≤ hi := by
  have p1 : 0 ≤ (u - a) * (v - c) := Int.mul_nonneg (by omega) (by omega)
  have p2 : 0 ≤ (u - a) * (d - v) := Int.mul_nonneg (by omega) (by omega)
  have p3 : 0 ≤ (b - u) * (v - c) := Int.mul_nonneg (by omega) (by omega)
  have p4 : 0 ≤ (b - u) * (d - v) := Int.mul_nonneg (by omega) (by omega)
  rcases Int.le_total 0 v with hv | hv
  · have q1 : a * v ≤ u * v := Int.mul_le_mul_of_nonneg_right h1 hv
    have q2 : u * v ≤ b * v := Int.mul_le_mul_of_nonneg_right h2 hv
    rcases Int.le_total 0 a with ha | ha
    · have r1 : a * c ≤ a * v := Int.mul_le_mul_of_nonneg_left h3 ha
      rcases Int.le_total 0 b with hb | hb
      · have r2 : b * v ≤ b * d := Int.mul_le_mul_of_nonneg_left h4 hb
        omega
      · have r2 : b * v ≤ b * c := Int.mul_le_mul_of_nonpos_left hb h3
        omega
    · have r1 : a * d ≤ a * v := Int.mul_le_mul_of_nonpos_left ha h4
      rcases Int.le_total 0 b with hb | hb
      · have r2 : b * v ≤ b * d := Int.mul_le_mul_of_nonneg_left h4 hb
        omega
      · have r2 : b * v ≤ b * c := Int.mul_le_mul_of_nonpos_left hb h3
        omega
  · have q1 : b * v ≤ u * v := Int.mul_le_mul_of_nonpos_right h2 hv
    have q2 : u * v ≤ a * v := Int.mul_le_mul_of_nonpos_right h1 hv
    rcases Int.le_total 0 b with hb | hb
    · have r1 : b * c ≤ b * v := Int.mul_le_mul_of_nonneg_left h3 hb
      rcases Int.le_total 0 a with ha | ha
      · have r2 : a * v ≤ a * d := Int.mul_le_mul_of_nonneg_left h4 ha
        omega
      · have r2 : a * v ≤ a * c := Int.mul_le_mul_of_nonpos_left ha h3
        omega
    · have r1 : b * d ≤ b * v := Int.mul_le_mul_of_nonpos_left hb h4
      rcases Int.le_total 0 a with ha | ha
      · have r2 : a * v ≤ a * d := Int.mul_le_mul_of_nonneg_left h4 ha
        omega
      · have r2 : a * v ≤ a * c := Int.mul_le_mul_of_nonpos_left ha h3
        omega
theorem iv_mul {x y : Int32} {a b c d lo hi : Int} (hx : iv x a b) (hy : iv y c d) (hn : (decide (-2147483648 ≤ lo) && decide (hi ≤ 2147483647) && decide (lo ≤ a * c) && decide (lo ≤ a * d) && decide (lo ≤ b * c) && decide (lo ≤ b * d) && decide (a * c ≤ hi) && decide (a * d ≤ hi) && decide (b * c ≤ hi) && decide (b * d ≤ hi)) = true) : iv (x * y) lo hi := by
  obtain ⟨h1, h2⟩ := hx
  obtain ⟨h3, h4⟩ := hy
  simp only [Bool.and_eq_true, decide_eq_true_eq] at hn
  obtain ⟨⟨⟨⟨⟨⟨⟨⟨⟨n1, n2⟩, k1⟩, k2⟩, k3⟩, k4⟩, m1⟩, m2⟩, m3⟩, m4⟩ := hn
  have q := iv_mulc h1 h2 h3 h4 k1 k2 k3 k4 m1 m2 m3 m4
  unfold iv
  rw [Int32.toInt_mul, iv_bm (by omega) (by omega)]
  exact q
/-- what comparing two bounded numbers tells of their bounds -/
theorem iv_ltl {x y : Int32} {a b c d e : Int} (hx : iv x a b) (hy : iv y c d) (h : x < y) (hn : (decide (d - 1 ≤ e) || decide (b ≤ e)) = true) : iv x a e := by
  rw [Int32.lt_iff_toInt_lt] at h
  simp only [Bool.or_eq_true, decide_eq_true_eq] at hn
  obtain ⟨h1, h2⟩ := hx
  obtain ⟨h3, h4⟩ := hy
  exact ⟨by omega, by omega⟩
theorem iv_ltr {x y : Int32} {a b c d e : Int} (hx : iv x a b) (hy : iv y c d) (h : x < y) (hn : (decide (e ≤ a + 1) || decide (e ≤ c)) = true) : iv y e d := by
  rw [Int32.lt_iff_toInt_lt] at h
  simp only [Bool.or_eq_true, decide_eq_true_eq] at hn
  obtain ⟨h1, h2⟩ := hx
  obtain ⟨h3, h4⟩ := hy
  exact ⟨by omega, by omega⟩
theorem iv_lel {x y : Int32} {a b c d e : Int} (hx : iv x a b) (hy : iv y c d) (h : x ≤ y) (hn : (decide (d ≤ e) || decide (b ≤ e)) = true) : iv x a e := by
  rw [Int32.le_iff_toInt_le] at h
  simp only [Bool.or_eq_true, decide_eq_true_eq] at hn
  obtain ⟨h1, h2⟩ := hx
  obtain ⟨h3, h4⟩ := hy
  exact ⟨by omega, by omega⟩
theorem iv_ler {x y : Int32} {a b c d e : Int} (hx : iv x a b) (hy : iv y c d) (h : x ≤ y) (hn : (decide (e ≤ a) || decide (e ≤ c)) = true) : iv y e d := by
  rw [Int32.le_iff_toInt_le] at h
  simp only [Bool.or_eq_true, decide_eq_true_eq] at hn
  obtain ⟨h1, h2⟩ := hx
  obtain ⟨h3, h4⟩ := hy
  exact ⟨by omega, by omega⟩
theorem iv_eql {x y : Int32} {a b c d e f : Int} (hx : iv x a b) (hy : iv y c d) (h : x = y) (hn : ((decide (e ≤ a) || decide (e ≤ c)) && (decide (b ≤ f) || decide (d ≤ f))) = true) : iv x e f := by
  subst h
  simp only [Bool.or_eq_true, Bool.and_eq_true, decide_eq_true_eq] at hn
  obtain ⟨h1, h2⟩ := hx
  obtain ⟨h3, h4⟩ := hy
  exact ⟨by omega, by omega⟩
theorem iv_nel {x y : Int32} {a b c e f : Int} (hx : iv x a b) (hy : iv y c c) (h : ¬ x = y) (hn : ((decide (e ≤ a) || (decide (a = c) && decide (e ≤ a + 1))) && (decide (b ≤ f) || (decide (b = c) && decide (b - 1 ≤ f)))) = true) : iv x e f := by
  have h' : ¬ x.toInt = y.toInt := fun q => h (Int32.toInt_inj.mp q)
  simp only [Bool.or_eq_true, Bool.and_eq_true, decide_eq_true_eq] at hn
  obtain ⟨h1, h2⟩ := hx
  obtain ⟨h3, h4⟩ := hy
  exact ⟨by omega, by omega⟩
theorem iv_in {x : Int32} {a b : Int} {n : Nat} (h : iv x a b) (hn : (decide (0 ≤ a) && decide (b < (n : Int))) = true) : vp_in x n := by
  rw [vp_in_iff]
  simp only [Bool.and_eq_true, decide_eq_true_eq] at hn
  obtain ⟨h1, h2⟩ := h
  exact ⟨by omega, by omega⟩
theorem iv_ne0 {x : Int32} {a b : Int} (h : iv x a b) (hn : (decide (0 < a) || decide (b < 0)) = true) : ¬ x = 0 := by
  intro q
  subst q
  simp only [Bool.or_eq_true, decide_eq_true_eq] at hn
  obtain ⟨h1, h2⟩ := h
  have h3 : (0 : Int32).toInt = 0 := by decide
  omega
theorem iv_01 {x : Int32} (h : iv x 0 1) : x = 0 ∨ x = 1 := by
  obtain ⟨h1, h2⟩ := h
  rcases (show x.toInt = 0 ∨ x.toInt = 1 by omega) with q | q
  · exact Or.inl (Int32.toInt_inj.mp (by rw [q]; rfl))
  · exact Or.inr (Int32.toInt_inj.mp (by rw [q]; rfl))
/-- x / y for a divisor above 0, or a dividend within bounds -/
theorem iv_div {x y : Int32} {a b c d lo hi : Int} (hx : iv x a b) (hy : iv y c d) (hn : (decide (0 < c) && decide (lo ≤ 0) && decide (lo ≤ a) && decide (0 ≤ hi) && decide (b ≤ hi)) = true) : iv (x / y) lo hi := by
  simp only [Bool.and_eq_true, decide_eq_true_eq] at hn
  obtain ⟨h1, h2⟩ := hx
  obtain ⟨h3, h4⟩ := hy
  have hne : y ≠ -1 := by
    intro q
    subst q
    have : (-1 : Int32).toInt = -1 := by decide
    omega
  unfold iv
  rw [Int32.toInt_div_of_ne_right x y hne]
  have hy0 : 0 < y.toInt := by omega
  rcases Int.le_total 0 x.toInt with hp | hp
  · have q1 : 0 ≤ x.toInt.tdiv y.toInt := Int.tdiv_nonneg hp (by omega)
    have q2 : x.toInt.tdiv y.toInt ≤ x.toInt := Int.tdiv_le_self _ hp
    omega
  · have e : x.toInt.tdiv y.toInt = -((-x.toInt).tdiv y.toInt) := by rw [Int.neg_tdiv, Int.neg_neg]
    have q1 : 0 ≤ (-x.toInt).tdiv y.toInt := Int.tdiv_nonneg (by omega) (by omega)
    have q2 : (-x.toInt).tdiv y.toInt ≤ -x.toInt := Int.tdiv_le_self _ (by omega)
    omega
/-- x - x / y * y, y above 0 -/
theorem iv_rem {x y : Int32} {a b c d lo hi : Int} (hx : iv x a b) (hy : iv y c d) (hn : (decide (0 < c) && (decide (0 ≤ a) && decide (lo ≤ 0) || decide (lo ≤ 1 - d)) && (decide (d - 1 ≤ hi) || (decide (b ≤ hi) && decide (0 ≤ hi)))) = true) : iv (x - x / y * y) lo hi := by
  simp only [Bool.or_eq_true, Bool.and_eq_true, decide_eq_true_eq] at hn
  obtain ⟨h1, h2⟩ := hx
  obtain ⟨h3, h4⟩ := hy
  have t1 := Int32.le_toInt x
  have t2 := Int32.toInt_lt x
  have hne : y ≠ -1 := by
    intro q
    subst q
    have : (-1 : Int32).toInt = -1 := by decide
    omega
  have hy0 : 0 < y.toInt := by omega
  have e0 : (x / y).toInt = x.toInt.tdiv y.toInt := Int32.toInt_div_of_ne_right x y hne
  have e1 := Int.tmod_add_mul_tdiv x.toInt y.toInt
  have e2 : x.toInt.tdiv y.toInt * y.toInt = x.toInt - x.toInt.tmod y.toInt := by
    rw [Int.mul_comm]
    omega
  have m1 : x.toInt.tmod y.toInt < y.toInt := Int.tmod_lt_of_pos _ hy0
  have m2 : -y.toInt < x.toInt.tmod y.toInt := by
    have := Int.lt_tmod_of_pos x.toInt hy0
    omega
  have m3 : 0 ≤ x.toInt → 0 ≤ x.toInt.tmod y.toInt := fun h => Int.tmod_nonneg _ h
  have m4 : 0 ≤ x.toInt → x.toInt.tmod y.toInt ≤ x.toInt := fun h => by
    have q : 0 ≤ x.toInt.tdiv y.toInt := Int.tdiv_nonneg h (by omega)
    have q2 : 0 ≤ x.toInt.tdiv y.toInt * y.toInt := Int.mul_nonneg q (by omega)
    omega
  have m5 : x.toInt ≤ 0 → x.toInt ≤ x.toInt.tmod y.toInt ∧ x.toInt.tmod y.toInt ≤ 0 := fun h => by
    have q : (-x.toInt).tdiv y.toInt = -(x.toInt.tdiv y.toInt) := Int.neg_tdiv ..
    have q1 : 0 ≤ (-x.toInt).tdiv y.toInt := Int.tdiv_nonneg (by omega) (by omega)
    have q2 : 0 ≤ (-x.toInt).tdiv y.toInt * y.toInt := Int.mul_nonneg q1 (by omega)
    have q3 : (-x.toInt).tmod y.toInt = -(x.toInt.tmod y.toInt) := Int.neg_tmod ..
    have q4 : 0 ≤ (-x.toInt).tmod y.toInt := Int.tmod_nonneg _ (by omega)
    rw [q, Int.neg_mul] at q2
    omega
  have e3 : (x / y * y).toInt = x.toInt - x.toInt.tmod y.toInt := by
    rw [Int32.toInt_mul, e0, e2]
    rcases Int.le_total 0 x.toInt with h | h
    · have := m3 h
      have := m4 h
      exact iv_bm (by omega) (by omega)
    · have := m5 h
      exact iv_bm (by omega) (by omega)
  have e4 : (x - x / y * y).toInt = x.toInt.tmod y.toInt := by
    rw [Int32.toInt_sub, e3, show x.toInt - (x.toInt - x.toInt.tmod y.toInt) = x.toInt.tmod y.toInt by omega]
    rcases Int.le_total 0 x.toInt with h | h
    · have := m3 h
      have := m4 h
      exact iv_bm (by omega) (by omega)
    · have := m5 h
      exact iv_bm (by omega) (by omega)
  unfold iv
  rw [e4]
  rcases Int.le_total 0 x.toInt with h | h
  · have := m3 h
    have := m4 h
    omega
  · have := m5 h
    omega
theorem iv_nn {x : Int32} {b : Int} (h : iv x 0 b) : x.toBitVec.toNat = x.toInt.toNat ∧ x.toBitVec.toNat < 2147483648 := by
  have h2 := Int32.toInt_lt x
  obtain ⟨h1, -⟩ := h
  have e : x.toInt = x.toBitVec.toInt := rfl
  have e2 : x.toBitVec.toInt = if 2 * x.toBitVec.toNat < 2 ^ 32 then (x.toBitVec.toNat : Int) else (x.toBitVec.toNat : Int) - ((2 ^ 32 : Nat) : Int) := BitVec.toInt_eq_toNat_cond x.toBitVec
  have e3 := x.toBitVec.isLt
  by_cases q : 2 * x.toBitVec.toNat < 2 ^ 32
  · rw [if_pos q] at e2
    omega
  · rw [if_neg q] at e2
    omega
theorem iv_ofN {x : Int32} {n : Nat} (h : x.toBitVec.toNat = n) (hn : n < 2147483648) : x.toInt = (n : Int) := by
  have e2 : x.toBitVec.toInt = if 2 * x.toBitVec.toNat < 2 ^ 32 then (x.toBitVec.toNat : Int) else (x.toBitVec.toNat : Int) - ((2 ^ 32 : Nat) : Int) := BitVec.toInt_eq_toNat_cond x.toBitVec
  rw [if_pos (by omega)] at e2
  show x.toBitVec.toInt = _
  rw [e2, h]
theorem iv_and {x y : Int32} {d : Int} (hy : iv y 0 d) : iv (x &&& y) 0 d := by
  obtain ⟨e1, e2⟩ := iv_nn hy
  obtain ⟨h1, h2⟩ := hy
  have e3 : (x &&& y).toBitVec.toNat = x.toBitVec.toNat &&& y.toBitVec.toNat := by rw [Int32.toBitVec_and, BitVec.toNat_and]
  have e4 : x.toBitVec.toNat &&& y.toBitVec.toNat ≤ y.toBitVec.toNat := Nat.and_le_right
  have e5 := iv_ofN e3 (by omega)
  exact ⟨by omega, by omega⟩
theorem iv_xor {x y : Int32} {b d : Int} (k : Nat) (hx : iv x 0 b) (hy : iv y 0 d) (hn : (decide (b < 2 ^ k) && decide (d < 2 ^ k) && decide (k ≤ 30)) = true) : iv (x ^^^ y) 0 (2 ^ k - 1) := by
  simp only [Bool.and_eq_true, decide_eq_true_eq] at hn
  obtain ⟨⟨n1, n2⟩, n3⟩ := hn
  obtain ⟨e1, e2⟩ := iv_nn hy
  obtain ⟨f1, f2⟩ := iv_nn hx
  obtain ⟨h1, h2⟩ := hy
  obtain ⟨g1, g2⟩ := hx
  have e3 : (x ^^^ y).toBitVec.toNat = x.toBitVec.toNat ^^^ y.toBitVec.toNat := by rw [Int32.toBitVec_xor, BitVec.toNat_xor]
  have p2 : (2 : Nat) ^ k ≤ 2 ^ 30 := Nat.pow_le_pow_right (by decide) n3
  have c1 : ((2 ^ k : Nat) : Int) = (2 : Int) ^ k := by simp
  have e4 : x.toBitVec.toNat ^^^ y.toBitVec.toNat < 2 ^ k := Nat.xor_lt_two_pow (by omega) (by omega)
  have e5 := iv_ofN e3 (by omega)
  exact ⟨by omega, by omega⟩
/-! roles -/
abbrev tv : Type := (Int × Int) ⊕ (Nat ⊕ Nat)
abbrev tsp : Type := (Nat × List tv × (List Value → Prop)) ⊕ (Nat × Nat × (Nat → tv) × ((Nat → Value) → Prop))
def gm (Y : Nat → Option Nat) (t : tv) (v : Value) : Prop := match t with
  | .inl b => ∃ x : Int32, v = .int x ∧ iv x b.1 b.2
  | .inr (.inl r) => ∃ q : Nat, v = .ref q ∧ Y q = some r
  | .inr (.inr 0) => ∃ x : Int64, v = .long x
  | .inr (.inr (_ + 1)) => True
def ti_c (D : va_G) (cl : List vw_C) (tys : List (ClassId × FieldType)) (Y : Nat → Option Nat) (sp : tsp) (a : Nat) (H : Heap) : Prop := match sp with
  | .inl o => ∃ fs : List Value, va_at D cl (a, .inr (o.1, fs)) H ∧ fs.length = o.2.1.length ∧ (∀ (k : Nat) (t : tv), o.2.1[k]? = some t → ∃ v : Value, fs[k]? = some v ∧ gm Y t v) ∧ o.2.2 fs
  | .inr x => ∃ (cA : ClassId) (ty : FieldType) (g : Nat → Value), tys[x.1]? = some (cA, ty) ∧ H[a]? = some (arrV cA x.2.1 g) ∧ (∀ j : Nat, j < x.2.1 → gm Y (x.2.2.1 j) (g j)) ∧ x.2.2.2 g
def TI (D : va_G) (cl : List vw_C) (tys : List (ClassId × FieldType)) (RT : Nat → tsp) (Y : Nat → Option Nat) (H : Heap) : Prop := ∀ (a r : Nat), Y a = some r → ti_c D cl tys Y (RT r) a H
def pA (Y : Nat → Option Nat) : Nat → Prop := fun q => ∃ r, Y q = some r
/-- the cells whose roles are in a list: what a method may write -/
def pW (Y : Nat → Option Nat) (ws : List Nat) : Nat → Prop := fun q => ∃ r, ws.contains r = true ∧ Y q = some r
theorem pW_pA {Y : Nat → Option Nat} {ws : List Nat} {q : Nat} (h : pW Y ws q) : pA Y q := by
  obtain ⟨r, -, h⟩ := h
  exact ⟨r, h⟩
theorem pW_sub {Y : Nat → Option Nat} {ws ws' : List Nat} (hn : ws.all (fun r => ws'.contains r) = true) : ∀ q, pW Y ws q → pW Y ws' q := by
  rintro q ⟨r, h1, h2⟩
  exact ⟨r, List.all_eq_true.mp hn r (List.contains_iff_mem.mp h1), h2⟩
theorem pW_not {Y : Nat → Option Nat} {ws : List Nat} {q r : Nat} (hq : Y q = some r) (hn : ws.contains r = false) : ¬ pW Y ws q := by
  rintro ⟨r', h1, h2⟩
  cases hq.symm.trans h2
  rw [hn] at h1
  cases h1
theorem ti_c.kept {D : va_G} {cl : List vw_C} {tys : List (ClassId × FieldType)} {Y : Nat → Option Nat} {sp : tsp} {a : Nat} {H H1 : Heap} (h : ti_c D cl tys Y sp a H) (hq : H1[a]? = H[a]?) : ti_c D cl tys Y sp a H1 := by
  cases sp with
  | inl o =>
    obtain ⟨fs, h1, h2⟩ := h
    exact ⟨fs, h1.kept hq, h2⟩
  | inr x =>
    obtain ⟨cA, ty, g, h1, h2, h3⟩ := h
    exact ⟨cA, ty, g, h1, hq.trans h2, h3⟩
theorem TI.put {D : va_G} {cl : List vw_C} {tys : List (ClassId × FieldType)} {RT : Nat → tsp} {Y : Nat → Option Nat} {H H1 : Heap} {a r : Nat} (h : TI D cl tys RT Y H) (ha : Y a = some r) (hc : ti_c D cl tys Y (RT r) a H1) (oq : ∀ q : Nat, q ≠ a → H1[q]? = H[q]?) : TI D cl tys RT Y H1 := by
  intro b q hb
  by_cases e : b = a
  · subst e
    cases hb.symm.trans ha
    exact hc
  · exact (h b q hb).kept (oq b e)
/-- the roles of one cell change, by a new table -/
theorem TI.putG {D : va_G} {cl : List vw_C} {tys : List (ClassId × FieldType)} {RT RT' : Nat → tsp} {Y : Nat → Option Nat} {H H1 : Heap} {a r : Nat} (h : TI D cl tys RT Y H) (ha : Y a = some r) (hc : ti_c D cl tys Y (RT' r) a H1) (oq : ∀ q : Nat, q ≠ a → H1[q]? = H[q]?) (hr : ∀ b q, Y b = some q → b ≠ a → RT' q = RT q) : TI D cl tys RT' Y H1 := by
  intro b q hb
  by_cases e : b = a
  · subst e
    cases hb.symm.trans ha
    exact hc
  · rw [hr b q hb e]
    exact (h b q hb).kept (oq b e)
theorem va_P1 {D : va_G} {cl : List vw_C} {q : Nat × va_E} {H : Heap} (h : va_at D cl q H) : va_P D cl [q] H := by
  intro k x hk
  have hz : k < 1 := (List.getElem?_eq_some_iff.mp hk).1
  rw [show k = 0 by omega] at hk
  cases hk
  exact h
theorem iv_c {x : Int32} {k : Int} (h : x.toInt = k) : iv x k k := ⟨by omega, by omega⟩
theorem iv_no {x : Int32} {a b : Int} (h : iv x a b) (hn : decide (b < a) = true) : False := by
  simp only [decide_eq_true_eq] at hn
  obtain ⟨h1, h2⟩ := h
  omega
theorem i_lt {x y : Int32} (h : x < y) : x.toInt < y.toInt := Int32.lt_iff_toInt_lt.mp h
theorem i_nlt {x y : Int32} (h : ¬ x < y) : y.toInt ≤ x.toInt := Int.not_lt.mp fun q => h (Int32.lt_iff_toInt_lt.mpr q)
theorem i_le {x y : Int32} (h : x ≤ y) : x.toInt ≤ y.toInt := Int32.le_iff_toInt_le.mp h
theorem i_nle {x y : Int32} (h : ¬ x ≤ y) : y.toInt < x.toInt := Int.not_le.mp fun q => h (Int32.le_iff_toInt_le.mpr q)
theorem i_eq {x y : Int32} (h : x = y) : x.toInt = y.toInt := by rw [h]
theorem i_ne {x y : Int32} (h : ¬ x = y) : ¬ x.toInt = y.toInt := fun q => h (Int32.toInt_inj.mp q)
theorem iv_divk {x y : Int32} {a b c : Int} (hx : iv x a b) (hy : iv y c c) (hn : (decide (0 ≤ a) && decide (0 < c)) = true) : iv (x / y) (a / c) (b / c) := by
  simp only [Bool.and_eq_true, decide_eq_true_eq] at hn
  obtain ⟨h1, h2⟩ := hx
  obtain ⟨h3, h4⟩ := hy
  have hy0 : y.toInt = c := by omega
  have hne : y ≠ -1 := by
    intro q
    subst q
    have : (-1 : Int32).toInt = -1 := by decide
    omega
  unfold iv
  rw [Int32.toInt_div_of_ne_right x y hne, hy0, Int.tdiv_eq_ediv_of_nonneg (by omega)]
  exact ⟨Int.ediv_le_ediv hn.2 h1, Int.ediv_le_ediv hn.2 h2⟩
/-! rows over typed heaps -/
def tysOf (c : Nat → ClassId) : List (ClassId × FieldType) := [(c 0, .int), (c 1, .byte), (c 2, .boolean), (c 3, .long), (c 4, .object "SixStroke$Town"), (c 5, .object "SixStroke$Slot"), (c 6, .object "SixStroke$Person")]
theorem va_RA_inj {U : State} {c1 c2 : ClassId} {ty : FieldType} (h1 : va_RA U c1 ty) (h2 : va_RA U c2 ty) : c1 = c2 := by
  cases ty with
  | object C =>
    obtain ⟨_, _, -, -, -, h1⟩ := h1
    obtain ⟨_, _, -, -, -, h2⟩ := h2
    exact Option.some.inj (h1.symm.trans h2)
  | _ => exact Option.some.inj (Eq.trans (Eq.symm h1) h2)
/-- what a field, an element of an array holds -/
def fi (D : va_G) (cl : List vw_C) (a ci k : Nat) (v : Value) (H : Heap) : Prop := ∃ fs : List Value, va_at D cl (a, .inr (ci, fs)) H ∧ fs[k]? = some v ∧ ∀ q, cl[ci]? = some q → fs.length = q.2.2
def am (a j : Nat) (v : Value) (H : Heap) : Prop := ∃ (cA : ClassId) (n : Nat) (g : Nat → Value), H[a]? = some (arrV cA n g) ∧ j < n ∧ g j = v
theorem fi.kept {D : va_G} {cl : List vw_C} {a ci k : Nat} {v : Value} {H H1 : Heap} (h : fi D cl a ci k v H) (hq : H1[a]? = H[a]?) : fi D cl a ci k v H1 := by
  obtain ⟨fs, h1, h2⟩ := h
  exact ⟨fs, h1.kept hq, h2⟩
theorem am.kept {a j : Nat} {v : Value} {H H1 : Heap} (h : am a j v H) (hq : H1[a]? = H[a]?) : am a j v H1 := by
  obtain ⟨cA, n, g, h1, h2⟩ := h
  exact ⟨cA, n, g, hq.trans h1, h2⟩
theorem ne_r {Y : Nat → Option Nat} {a b r q : Nat} (ha : Y a = some r) (hb : Y b = some q) (hn : (r == q) = false) : a ≠ b := by
  intro e
  subst e
  cases ha.symm.trans hb
  simp at hn
section TIR
variable {p : Program} {l : Launch} {e : Env} {R : Room} {s : State} {m : MethodId} {args : Array Value} {below : List Frame} {meth : Method} {c : Code} {H : Heap} {locs : List Loc} {cells slots : Nat} {Q : State → Prop}
variable {cc : ByteArray} {pc : Nat} {ls : Array Slot} {rest : List Value} {D : va_G} {cl : List vw_C} {tys : List (ClassId × FieldType)} {RT : Nat → tsp} {Y : Nat → Option Nat} {a r : Nat} {H0 : Heap} {ws : List Nat}
theorem ti_obj (hT : TI D cl tys RT Y H) (ha : Y a = some r) {ci : Nat} {fss : List tv} {P : List Value → Prop} (hR : RT r = .inl (ci, fss, P)) : ∃ fs : List Value, va_at D cl (a, .inr (ci, fs)) H ∧ fs.length = fss.length ∧ (∀ (k : Nat) (t : tv), fss[k]? = some t → ∃ v : Value, fs[k]? = some v ∧ gm Y t v) ∧ P fs := by
  have h := hT a r ha
  rw [hR] at h
  exact h
theorem ti_arr (hT : TI D cl tys RT Y H) (ha : Y a = some r) {t n : Nat} {f : Nat → tv} {P : (Nat → Value) → Prop} (hR : RT r = .inr (t, n, f, P)) : ∃ (cA : ClassId) (ty : FieldType) (g : Nat → Value), tys[t]? = some (cA, ty) ∧ H[a]? = some (arrV cA n g) ∧ (∀ j : Nat, j < n → gm Y (f j) (g j)) ∧ P g := by
  have h := hT a r ha
  rw [hR] at h
  exact h
/-- reading a field: its value is of its type -/
theorem ti_get (hexec : p.tables.exec = Jvm.exec) (hb : c.code = cc) {own ref C : String} {T : u_T} {N ci index : Nat} {Ts : List Cond} (hts : ∀ w ∈ Ts, w.before args s = true) (hin : ∀ w ∈ u_ws C T N, w ∈ Ts) (hown : s.vm.findClass own = some m.cls) (hK : va_K D cl tys s) (hT : TI D cl tys RT Y H) (ha : Y a = some r) {fss : List tv} {P : List Value → Prop} (hR : RT r = .inl (ci, fss, P)) (hc : cl[ci]? = some (C, T, N)) (hfl : fss.length = N) (k : Nat) (hk : k < N) (hlink : (Cond.fieldLink own index ref (T k).2.1 (T k).2.2.1).before args s = true) (hsame : ∀ x, s.fieldFound? (T k).1 (T k).2.1 (T k).2.2.1 = some x → s.fieldFound? ref (T k).2.1 (T k).2.2.1 = some x) {t : tv} (hf : fss[k]? = some t) (hdg : decode cc pc = .ok (.getfield index, 3))
    (kk : ∀ v : Value, gm Y t v → fi D cl a ci k v H → W p l e R s m args below meth c H locs cells slots Q (F0 m (pc + 3) ls (v :: rest))) : W p l e R s m args below meth c H locs cells slots Q (F0 m pc ls (.ref a :: rest)) := by
  obtain ⟨fs, h1, hln, h3, -⟩ := ti_obj hT ha hR
  obtain ⟨v, h4, h5⟩ := h3 k t hf
  exact va_get hexec hb hts hin hown hK (va_P1 h1) 0 rfl hc k hk hlink hsame h4 hdg (kk v h5 ⟨fs, h1, h4, fun q hq => by cases hq.symm.trans hc; exact hln.trans hfl⟩)
theorem ti_geti (hexec : p.tables.exec = Jvm.exec) (hb : c.code = cc) {own ref C : String} {T : u_T} {N ci index : Nat} {Ts : List Cond} (hts : ∀ w ∈ Ts, w.before args s = true) (hin : ∀ w ∈ u_ws C T N, w ∈ Ts) (hown : s.vm.findClass own = some m.cls) (hK : va_K D cl tys s) (hT : TI D cl tys RT Y H) (ha : Y a = some r) {fss : List tv} {P : List Value → Prop} (hR : RT r = .inl (ci, fss, P)) (hc : cl[ci]? = some (C, T, N)) (hfl : fss.length = N) (k : Nat) (hk : k < N) (hlink : (Cond.fieldLink own index ref (T k).2.1 (T k).2.2.1).before args s = true) (hsame : ∀ x, s.fieldFound? (T k).1 (T k).2.1 (T k).2.2.1 = some x → s.fieldFound? ref (T k).2.1 (T k).2.2.1 = some x) {lo hi : Int} (hf : fss[k]? = some (.inl (lo, hi))) (hdg : decode cc pc = .ok (.getfield index, 3))
    (kk : ∀ x : Int32, iv x lo hi → fi D cl a ci k (.int x) H → W p l e R s m args below meth c H locs cells slots Q (F0 m (pc + 3) ls (.int x :: rest))) : W p l e R s m args below meth c H locs cells slots Q (F0 m pc ls (.ref a :: rest)) := by
  refine ti_get hexec hb hts hin hown hK hT ha hR hc hfl k hk hlink hsame hf hdg (fun v hv hm => ?_)
  obtain ⟨x, rfl, hx⟩ := hv
  exact kk x hx hm
theorem ti_getr (hexec : p.tables.exec = Jvm.exec) (hb : c.code = cc) {own ref C : String} {T : u_T} {N ci index : Nat} {Ts : List Cond} (hts : ∀ w ∈ Ts, w.before args s = true) (hin : ∀ w ∈ u_ws C T N, w ∈ Ts) (hown : s.vm.findClass own = some m.cls) (hK : va_K D cl tys s) (hT : TI D cl tys RT Y H) (ha : Y a = some r) {fss : List tv} {P : List Value → Prop} (hR : RT r = .inl (ci, fss, P)) (hc : cl[ci]? = some (C, T, N)) (hfl : fss.length = N) (k : Nat) (hk : k < N) (hlink : (Cond.fieldLink own index ref (T k).2.1 (T k).2.2.1).before args s = true) (hsame : ∀ x, s.fieldFound? (T k).1 (T k).2.1 (T k).2.2.1 = some x → s.fieldFound? ref (T k).2.1 (T k).2.2.1 = some x) {r' : Nat} (hf : fss[k]? = some (.inr (.inl r'))) (hdg : decode cc pc = .ok (.getfield index, 3))
    (kk : ∀ q : Nat, Y q = some r' → fi D cl a ci k (.ref q) H → W p l e R s m args below meth c H locs cells slots Q (F0 m (pc + 3) ls (.ref q :: rest))) : W p l e R s m args below meth c H locs cells slots Q (F0 m pc ls (.ref a :: rest)) := by
  refine ti_get hexec hb hts hin hown hK hT ha hR hc hfl k hk hlink hsame hf hdg (fun v hv hm => ?_)
  obtain ⟨x, rfl, hx⟩ := hv
  exact kk x hx hm
theorem ti_getl (hexec : p.tables.exec = Jvm.exec) (hb : c.code = cc) {own ref C : String} {T : u_T} {N ci index : Nat} {Ts : List Cond} (hts : ∀ w ∈ Ts, w.before args s = true) (hin : ∀ w ∈ u_ws C T N, w ∈ Ts) (hown : s.vm.findClass own = some m.cls) (hK : va_K D cl tys s) (hT : TI D cl tys RT Y H) (ha : Y a = some r) {fss : List tv} {P : List Value → Prop} (hR : RT r = .inl (ci, fss, P)) (hc : cl[ci]? = some (C, T, N)) (hfl : fss.length = N) (k : Nat) (hk : k < N) (hlink : (Cond.fieldLink own index ref (T k).2.1 (T k).2.2.1).before args s = true) (hsame : ∀ x, s.fieldFound? (T k).1 (T k).2.1 (T k).2.2.1 = some x → s.fieldFound? ref (T k).2.1 (T k).2.2.1 = some x) (hf : fss[k]? = some (.inr (.inr 0))) (hdg : decode cc pc = .ok (.getfield index, 3))
    (kk : ∀ x : Int64, fi D cl a ci k (.long x) H → W p l e R s m args below meth c H locs cells slots Q (F0 m (pc + 3) ls (.long x :: rest))) : W p l e R s m args below meth c H locs cells slots Q (F0 m pc ls (.ref a :: rest)) := by
  refine ti_get hexec hb hts hin hown hK hT ha hR hc hfl k hk hlink hsame hf hdg (fun v hv hm => ?_)
  obtain ⟨x, rfl⟩ := hv
  exact kk x hm
/-- reading what is known -/
theorem ti_getE (hexec : p.tables.exec = Jvm.exec) (hb : c.code = cc) {own ref C : String} {T : u_T} {N ci index : Nat} {Ts : List Cond} (hts : ∀ w ∈ Ts, w.before args s = true) (hin : ∀ w ∈ u_ws C T N, w ∈ Ts) (hown : s.vm.findClass own = some m.cls) (hK : va_K D cl tys s) {k : Nat} {v : Value} (hm : fi D cl a ci k v H) (hc : cl[ci]? = some (C, T, N)) (hk : k < N) (hlink : (Cond.fieldLink own index ref (T k).2.1 (T k).2.2.1).before args s = true) (hsame : ∀ x, s.fieldFound? (T k).1 (T k).2.1 (T k).2.2.1 = some x → s.fieldFound? ref (T k).2.1 (T k).2.2.1 = some x) (hdg : decode cc pc = .ok (.getfield index, 3))
    (kk : W p l e R s m args below meth c H locs cells slots Q (F0 m (pc + 3) ls (v :: rest))) : W p l e R s m args below meth c H locs cells slots Q (F0 m pc ls (.ref a :: rest)) := by
  obtain ⟨fs, h1, h4, -⟩ := hm
  exact va_get hexec hb hts hin hown hK (va_P1 h1) 0 rfl hc k hk hlink hsame h4 hdg kk
theorem ti_fi (hT : TI D cl tys RT Y H) (ha : Y a = some r) {ci : Nat} {fss : List tv} {P : List Value → Prop} (hR : RT r = .inl (ci, fss, P)) {q : vw_C} (hc : cl[ci]? = some q) (hfl : fss.length = q.2.2) (k : Nat) {lo hi : Int} (hf : fss[k]? = some (.inl (lo, hi))) : ∃ x : Int32, iv x lo hi ∧ fi D cl a ci k (.int x) H := by
  obtain ⟨fs, h1, hln, h3, -⟩ := ti_obj hT ha hR
  obtain ⟨v, h4, x, rfl, hx⟩ := h3 k _ hf
  exact ⟨x, hx, fs, h1, h4, fun q' hq => by cases hq.symm.trans hc; exact hln.trans hfl⟩
/-- writing a field: a value of its type -/
theorem xput (hexec : p.tables.exec = Jvm.exec) (hb : c.code = cc) {own ref C : String} {T : u_T} {N ci index : Nat} {Ts : List Cond} (hts : ∀ w ∈ Ts, w.before args s = true) (hin : ∀ w ∈ u_ws C T N, w ∈ Ts) (ty0 : Nat → FieldType) (hty : ∀ k, k < N → parseFieldDescriptor (T k).2.2.1 = some (ty0 k)) (hnm : ∀ a, a < N → ∀ b, b < N → a ≠ b → (T a).2.1 ≠ (T b).2.1) (hown : s.vm.findClass own = some m.cls) (hK : va_K D cl tys s) {A : Nat → Prop} {fs : List Value} (hat : va_at D cl (a, .inr (ci, fs)) H) (hS0 : va_S A H0 H locs) (hAa : A a) (hc : cl[ci]? = some (C, T, N)) (k : Nat) (hk : k < N) (hlink : (Cond.fieldLink own index ref (T k).2.1 (T k).2.2.1).before args s = true) (hsame : ∀ x, s.fieldFound? (T k).1 (T k).2.1 (T k).2.2.1 = some x → s.fieldFound? ref (T k).2.1 (T k).2.2.1 = some x) (hfin : (T k).2.2.2 = false) (hl : k < fs.length) {ty : FieldType} {v : Value} (hd : parseFieldDescriptor (T k).2.2.1 = some ty) (hn : narrow ty v = v) (hfit : fits ty v = true)
    (hdg : decode cc pc = .ok (.putfield index, 3)) (kk : ∀ (H1 : Heap) (locs1 : List Loc), va_at D cl (a, .inr (ci, fs.set k v)) H1 → va_S A H0 H1 locs1 → (∀ q : Nat, q ≠ a → H1[q]? = H[q]?) → W p l e R s m args below meth c H1 locs1 cells slots Q (F0 m (pc + 3) ls rest)) : W p l e R s m args below meth c H locs cells slots Q (F0 m pc ls (v :: .ref a :: rest)) := by
  have hap := va_apart (own := own) hts hin ty0 hty hnm hK hc
  obtain ⟨rr, hcl, cell, q1, q2, q3, q4⟩ := hat
  have hr : rr = (C, T, N) := Option.some.inj (hcl.symm.trans hc)
  subst hr
  obtain ⟨hS, hfc, kC, hkC, hkind⟩ := hK.1 ci _ hc
  obtain ⟨cf, kf, fi, f, hi, hsl⟩ := hS k hk
  have hlay := hts _ (hin _ (u_in_lay hk))
  unfold u_lay at hlay
  rw [if_neg (by rw [hfin]; decide)] at hlay
  have hst := (u_facts hfc hkC (u_lays hts hin hk) hi).1
  have h6 := u_store hfc hkC hkind hlay hi hd hn hfit
  refine W.putK hexec hb (f := f) ⟨hown, hlink, ⟨_, _, _, hsame _ hi⟩, hst⟩ (by rw [q2]; exact h6) q1 q3 (by rw [hsl]; exact k2_hasslot (q4 k hk)) rfl rfl hdg fun H' e1 e2 e3 => ?_
  rw [hsl] at e1 ⊢
  exact kk H' _ ⟨_, hc, t_OB.to (V := updV (vp_V fs) k v) ⟨_, e1, q2, q3, t_set q4 hap hk v⟩ (fun j _ => vp_updV_set hl v j)⟩ (hS0.put e2 e3 hAa) e3
theorem ti_put (hexec : p.tables.exec = Jvm.exec) (hb : c.code = cc) {own ref C : String} {T : u_T} {N ci index : Nat} {Ts : List Cond} (hts : ∀ w ∈ Ts, w.before args s = true) (hin : ∀ w ∈ u_ws C T N, w ∈ Ts) (ty0 : Nat → FieldType) (hty : ∀ k, k < N → parseFieldDescriptor (T k).2.2.1 = some (ty0 k)) (hnm : ∀ a, a < N → ∀ b, b < N → a ≠ b → (T a).2.1 ≠ (T b).2.1) (hown : s.vm.findClass own = some m.cls) (hK : va_K D cl tys s) (hT : TI D cl tys RT Y H) (hS0 : va_S (pW Y ws) H0 H locs) (ha : Y a = some r) (hw : ws.contains r = true) {fss : List tv} {P : List Value → Prop} (hR : RT r = .inl (ci, fss, P)) (hc : cl[ci]? = some (C, T, N)) (hfl : fss.length = N) (k : Nat) (hk : k < N) (hlink : (Cond.fieldLink own index ref (T k).2.1 (T k).2.2.1).before args s = true) (hsame : ∀ x, s.fieldFound? (T k).1 (T k).2.1 (T k).2.2.1 = some x → s.fieldFound? ref (T k).2.1 (T k).2.2.1 = some x) (hfin : (T k).2.2.2 = false) {t : tv} (hf : fss[k]? = some t) {ty : FieldType} {v : Value} (hd : parseFieldDescriptor (T k).2.2.1 = some ty) (hn : narrow ty v = v) (hfit : fits ty v = true) (hg : gm Y t v) (hxr : ∀ fs, P fs → P (fs.set k v))
    (hdg : decode cc pc = .ok (.putfield index, 3)) (kk : ∀ (H1 : Heap) (locs1 : List Loc), TI D cl tys RT Y H1 → va_S (pW Y ws) H0 H1 locs1 → (∀ q : Nat, q ≠ a → H1[q]? = H[q]?) → fi D cl a ci k v H1 → (∀ (k' : Nat) (v' : Value), k' ≠ k → fi D cl a ci k' v' H → fi D cl a ci k' v' H1) → W p l e R s m args below meth c H1 locs1 cells slots Q (F0 m (pc + 3) ls rest)) : W p l e R s m args below meth c H locs cells slots Q (F0 m pc ls (v :: .ref a :: rest)) := by
  obtain ⟨fs, h1, hln, h3, hp⟩ := ti_obj hT ha hR
  have hap := va_apart (own := own) hts hin ty0 hty hnm hK hc
  obtain ⟨rr, hcl, cell, q1, q2, q3, q4⟩ := h1
  have hr : rr = (C, T, N) := Option.some.inj (hcl.symm.trans hc)
  subst hr
  obtain ⟨hS, hfc, kC, hkC, hkind⟩ := hK.1 ci _ hc
  obtain ⟨cf, kf, fi, f, hi, hsl⟩ := hS k hk
  have hlay := hts _ (hin _ (u_in_lay hk))
  unfold u_lay at hlay
  rw [if_neg (by rw [hfin]; decide)] at hlay
  have hst := (u_facts hfc hkC (u_lays hts hin hk) hi).1
  have h6 := u_store hfc hkC hkind hlay hi hd hn hfit
  have hl : k < fs.length := by rw [hln]; exact (List.getElem?_eq_some_iff.mp hf).1
  refine W.putK hexec hb (f := f) ⟨hown, hlink, ⟨_, _, _, hsame _ hi⟩, hst⟩ (by rw [q2]; exact h6) q1 q3 (by rw [hsl]; exact k2_hasslot (q4 k hk)) rfl rfl hdg fun H' e1 e2 e3 => ?_
  rw [hsl] at e1 ⊢
  have hat : ∀ fs : List Value, va_at D cl (a, .inr (ci, fs)) H → k < fs.length → va_at D cl (a, .inr (ci, fs.set k v)) H' := fun fs h1 hl => by
    obtain ⟨rr, hcl', cell', q1', q2', q3', q4'⟩ := h1
    have hr : rr = (C, T, N) := Option.some.inj (hcl'.symm.trans hc)
    subst hr
    cases q1.symm.trans q1'
    exact ⟨_, hc, t_OB.to (V := updV (vp_V fs) k v) ⟨_, e1, q2', q3', t_set q4' hap hk v⟩ (fun j _ => vp_updV_set hl v j)⟩
  have hat1 := hat fs ⟨_, hcl, cell, q1, q2, q3, q4⟩ hl
  refine kk H' _ (hT.put ha ?_ e3) (hS0.put e2 e3 ⟨r, hw, ha⟩) e3 ⟨fs.set k v, hat1, List.getElem?_set_self hl, fun q hq => by cases hq.symm.trans hc; rw [List.length_set]; exact hln.trans hfl⟩ ?_
  · rw [hR]
    refine ⟨fs.set k v, hat1, by rw [List.length_set]; exact hln, fun j t' hj => ?_, hxr _ hp⟩
    by_cases e : j = k
    · subst e
      cases hf.symm.trans hj
      exact ⟨v, List.getElem?_set_self hl, hg⟩
    · obtain ⟨w, w1, w2⟩ := h3 j t' hj
      exact ⟨w, by rw [List.getElem?_set_ne (Ne.symm e)]; exact w1, w2⟩
  · rintro k' v' hne ⟨fs', g1, g2, g3⟩
    have hl' : k < fs'.length := by rw [g3 _ hc]; exact hk
    exact ⟨fs'.set k v, hat fs' g1 hl', by rw [List.getElem?_set_ne (Ne.symm hne)]; exact g2, fun q hq => by rw [List.length_set]; exact g3 q hq⟩
theorem ti_ix {x : Int32} {n : Nat} {b d : Int} (h : iv x b d) (hn : (decide (0 ≤ b) && decide (d < (n : Int))) = true) : x.toNatClampNeg < n ∧ b ≤ (x.toNatClampNeg : Int) ∧ (x.toNatClampNeg : Int) ≤ d := by
  simp only [Bool.and_eq_true, decide_eq_true_eq] at hn
  obtain ⟨h1, h2⟩ := h
  have e : x.toNatClampNeg = x.toInt.toNat := rfl
  rw [e]
  omega
theorem ti_iald (hexec : p.tables.exec = Jvm.exec) (hb : c.code = cc) (hA : ∀ cA ty, tys[0]? = some (cA, ty) → ArrOfT s cA .int) (hT : TI D cl tys RT Y H) (ha : Y a = some r) {n : Nat} {f : Nat → tv} {P : (Nat → Value) → Prop} (hR : RT r = .inr (0, n, f, P)) {i : Int32} {b d lo hi : Int} (hix : iv i b d) (hn : (decide (0 ≤ b) && decide (d < (n : Int))) = true) (hu : ∀ j : Nat, b ≤ (j : Int) → (j : Int) ≤ d → ∃ u w : Int, f j = .inl (u, w) ∧ lo ≤ u ∧ w ≤ hi) (hdg : decode cc pc = .ok (.iaload, 1))
    (kk : ∀ x : Int32, iv x lo hi → am a i.toNatClampNeg (.int x) H → W p l e R s m args below meth c H locs cells slots Q (F0 m (pc + 1) ls (.int x :: rest))) : W p l e R s m args below meth c H locs cells slots Q (F0 m pc ls (.int i :: .ref a :: rest)) := by
  obtain ⟨cA, ty, g, h1, h2, h3, hp⟩ := ti_arr hT ha hR
  obtain ⟨k1, k2, k3⟩ := ti_ix hix hn
  have h4 := h3 _ k1
  obtain ⟨u, w, e1, e2, e3⟩ := hu _ k2 k3
  rw [e1] at h4
  obtain ⟨x, hx, hx2⟩ := h4
  have g1 : u ≤ x.toInt := hx2.1
  have g2 : x.toInt ≤ w := hx2.2
  exact W.iald (v := .int x) hexec hb h2 (hA _ _ h1 n g) (fun q => by cases q) (by rw [arrV_size]; exact iv_in hix hn) (by rw [arrV_read _ _ k1, hx]) rfl rfl hdg (kk x ⟨by omega, by omega⟩ ⟨cA, n, g, h2, k1, hx⟩)
theorem ti_zald (hexec : p.tables.exec = Jvm.exec) (hb : c.code = cc) (hA : ∀ cA ty, tys[2]? = some (cA, ty) → ArrOfT s cA .boolean) (hT : TI D cl tys RT Y H) (ha : Y a = some r) {n : Nat} {f : Nat → tv} {P : (Nat → Value) → Prop} (hR : RT r = .inr (2, n, f, P)) {i : Int32} {b d lo hi : Int} (hix : iv i b d) (hn : (decide (0 ≤ b) && decide (d < (n : Int))) = true) (hu : ∀ j : Nat, b ≤ (j : Int) → (j : Int) ≤ d → ∃ u w : Int, f j = .inl (u, w) ∧ lo ≤ u ∧ w ≤ hi) (hdg : decode cc pc = .ok (.baload, 1))
    (kk : ∀ x : Int32, iv x lo hi → am a i.toNatClampNeg (.int x) H → W p l e R s m args below meth c H locs cells slots Q (F0 m (pc + 1) ls (.int x :: rest))) : W p l e R s m args below meth c H locs cells slots Q (F0 m pc ls (.int i :: .ref a :: rest)) := by
  obtain ⟨cA, ty, g, h1, h2, h3, hp⟩ := ti_arr hT ha hR
  obtain ⟨k1, k2, k3⟩ := ti_ix hix hn
  have h4 := h3 _ k1
  obtain ⟨u, w, e1, e2, e3⟩ := hu _ k2 k3
  rw [e1] at h4
  obtain ⟨x, hx, hx2⟩ := h4
  have g1 : u ≤ x.toInt := hx2.1
  have g2 : x.toInt ≤ w := hx2.2
  exact W.zald (v := .int x) hexec hb h2 (hA _ _ h1 n g) (fun q => by cases q) (by rw [arrV_size]; exact iv_in hix hn) (by rw [arrV_read _ _ k1, hx]) rfl rfl hdg (kk x ⟨by omega, by omega⟩ ⟨cA, n, g, h2, k1, hx⟩)
theorem ti_bald (hexec : p.tables.exec = Jvm.exec) (hb : c.code = cc) (hA : ∀ cA ty, tys[1]? = some (cA, ty) → ArrOfT s cA .byte) (hT : TI D cl tys RT Y H) (ha : Y a = some r) {n : Nat} {f : Nat → tv} {P : (Nat → Value) → Prop} (hR : RT r = .inr (1, n, f, P)) {i : Int32} {b d lo hi : Int} (hix : iv i b d) (hn : (decide (0 ≤ b) && decide (d < (n : Int))) = true) (hu : ∀ j : Nat, b ≤ (j : Int) → (j : Int) ≤ d → ∃ u w : Int, f j = .inl (u, w) ∧ lo ≤ u ∧ w ≤ hi) (hdg : decode cc pc = .ok (.baload, 1))
    (kk : ∀ x : Int32, iv x lo hi → am a i.toNatClampNeg (.int x) H → W p l e R s m args below meth c H locs cells slots Q (F0 m (pc + 1) ls (.int x :: rest))) : W p l e R s m args below meth c H locs cells slots Q (F0 m pc ls (.int i :: .ref a :: rest)) := by
  obtain ⟨cA, ty, g, h1, h2, h3, hp⟩ := ti_arr hT ha hR
  obtain ⟨k1, k2, k3⟩ := ti_ix hix hn
  have h4 := h3 _ k1
  obtain ⟨u, w, e1, e2, e3⟩ := hu _ k2 k3
  rw [e1] at h4
  obtain ⟨x, hx, hx2⟩ := h4
  have g1 : u ≤ x.toInt := hx2.1
  have g2 : x.toInt ≤ w := hx2.2
  exact W.bald (v := .int x) hexec hb h2 (hA _ _ h1 n g) (fun q => by cases q) (by rw [arrV_size]; exact iv_in hix hn) (by rw [arrV_read _ _ k1, hx]) rfl rfl hdg (kk x ⟨by omega, by omega⟩ ⟨cA, n, g, h2, k1, hx⟩)
theorem ti_lald (hexec : p.tables.exec = Jvm.exec) (hb : c.code = cc) (hA : ∀ cA ty, tys[3]? = some (cA, ty) → ArrOfT s cA .long) (hT : TI D cl tys RT Y H) (ha : Y a = some r) {n : Nat} {f : Nat → tv} {P : (Nat → Value) → Prop} (hR : RT r = .inr (3, n, f, P)) {i : Int32} {b d : Int} (hix : iv i b d) (hn : (decide (0 ≤ b) && decide (d < (n : Int))) = true) (hu : ∀ j : Nat, b ≤ (j : Int) → (j : Int) ≤ d → f j = .inr (.inr 0)) (hdg : decode cc pc = .ok (.laload, 1))
    (kk : ∀ x : Int64, am a i.toNatClampNeg (.long x) H → W p l e R s m args below meth c H locs cells slots Q (F0 m (pc + 1) ls (.long x :: rest))) : W p l e R s m args below meth c H locs cells slots Q (F0 m pc ls (.int i :: .ref a :: rest)) := by
  obtain ⟨cA, ty, g, h1, h2, h3, hp⟩ := ti_arr hT ha hR
  obtain ⟨k1, k2, k3⟩ := ti_ix hix hn
  have h4 := h3 _ k1
  rw [hu _ k2 k3] at h4
  obtain ⟨x, hx⟩ := h4
  exact W.lald (v := .long x) hexec hb h2 (hA _ _ h1 n g) (fun q => by cases q) (by rw [arrV_size]; exact iv_in hix hn) (by rw [arrV_read _ _ k1, hx]) rfl rfl hdg (kk x ⟨cA, n, g, h2, k1, hx⟩)
theorem ti_aald (hexec : p.tables.exec = Jvm.exec) (hb : c.code = cc) {t0 : Nat} {C : String} (hA : ∀ cA ty, tys[t0]? = some (cA, ty) → ArrOfT s cA (.object C)) (hT : TI D cl tys RT Y H) (ha : Y a = some r) {n : Nat} {f : Nat → tv} {P : (Nat → Value) → Prop} (hR : RT r = .inr (t0, n, f, P)) {i : Int32} {b d : Int} {r' : Nat} (hix : iv i b d) (hn : (decide (0 ≤ b) && decide (d < (n : Int))) = true) (hu : ∀ j : Nat, b ≤ (j : Int) → (j : Int) ≤ d → f j = .inr (.inl r')) (hdg : decode cc pc = .ok (.aaload, 1))
    (kk : ∀ q : Nat, Y q = some r' → W p l e R s m args below meth c H locs cells slots Q (F0 m (pc + 1) ls (.ref q :: rest))) : W p l e R s m args below meth c H locs cells slots Q (F0 m pc ls (.int i :: .ref a :: rest)) := by
  obtain ⟨cA, ty, g, h1, h2, h3, hp⟩ := ti_arr hT ha hR
  obtain ⟨k1, k2, k3⟩ := ti_ix hix hn
  have h4 := h3 _ k1
  rw [hu _ k2 k3] at h4
  obtain ⟨x, hx, hx2⟩ := h4
  exact W.aald (v := .ref x) (ty := .object C) hexec hb h2 (hA _ _ h1 n g) rfl (fun q => by cases q) (by rw [arrV_size]; exact iv_in hix hn) (by rw [arrV_read _ _ k1, hx]) rfl rfl hdg (kk x hx2)
theorem ti_laldE (hexec : p.tables.exec = Jvm.exec) (hb : c.code = cc) (hA : ∀ cA ty, tys[3]? = some (cA, ty) → ArrOfT s cA .long) (hT : TI D cl tys RT Y H) (ha : Y a = some r) {n : Nat} {f : Nat → tv} {P : (Nat → Value) → Prop} (hR : RT r = .inr (3, n, f, P)) {i : Int32} {b d : Int} {v : Value} (hix : iv i b d) (hn : (decide (0 ≤ b) && decide (d < (n : Int))) = true) (hm : am a i.toNatClampNeg v H) (hdg : decode cc pc = .ok (.laload, 1))
    (kk : W p l e R s m args below meth c H locs cells slots Q (F0 m (pc + 1) ls (v :: rest))) : W p l e R s m args below meth c H locs cells slots Q (F0 m pc ls (.int i :: .ref a :: rest)) := by
  obtain ⟨cA, ty, g, h1, h2, h3, hp⟩ := ti_arr hT ha hR
  obtain ⟨k1, k2, k3⟩ := ti_ix hix hn
  obtain ⟨cB, n', g', g1, g2, g3⟩ := hm
  have e2 : arrV cA n g = arrV cB n' g' := Option.some.inj (h2.symm.trans g1)
  exact W.lald (v := v) hexec hb h2 (hA _ _ h1 n g) (fun q => by cases q) (by rw [arrV_size]; exact iv_in hix hn) (by rw [e2, arrV_read _ _ g2, g3]) rfl rfl hdg kk
theorem ti_ialdE (hexec : p.tables.exec = Jvm.exec) (hb : c.code = cc) (hA : ∀ cA ty, tys[0]? = some (cA, ty) → ArrOfT s cA .int) (hT : TI D cl tys RT Y H) (ha : Y a = some r) {n : Nat} {f : Nat → tv} {P : (Nat → Value) → Prop} (hR : RT r = .inr (0, n, f, P)) {i : Int32} {b d : Int} {v : Value} (hix : iv i b d) (hn : (decide (0 ≤ b) && decide (d < (n : Int))) = true) (hm : am a i.toNatClampNeg v H) (hdg : decode cc pc = .ok (.iaload, 1))
    (kk : W p l e R s m args below meth c H locs cells slots Q (F0 m (pc + 1) ls (v :: rest))) : W p l e R s m args below meth c H locs cells slots Q (F0 m pc ls (.int i :: .ref a :: rest)) := by
  obtain ⟨cA, ty, g, h1, h2, h3, hp⟩ := ti_arr hT ha hR
  obtain ⟨k1, k2, k3⟩ := ti_ix hix hn
  obtain ⟨cB, n', g', g1, g2, g3⟩ := hm
  have e2 : arrV cA n g = arrV cB n' g' := Option.some.inj (h2.symm.trans g1)
  exact W.iald (v := v) hexec hb h2 (hA _ _ h1 n g) (fun q => by cases q) (by rw [arrV_size]; exact iv_in hix hn) (by rw [e2, arrV_read _ _ g2, g3]) rfl rfl hdg kk
/-- an array's cell behind a store -/
theorem ti_ast {t n j : Nat} {f : Nat → tv} {P : (Nat → Value) → Prop} {g : Nat → Value} {v : Value} {H1 : Heap} {cA : ClassId} {ty : FieldType} (h1 : tys[t]? = some (cA, ty)) (h3 : ∀ i : Nat, i < n → gm Y (f i) (g i)) (e : H1[a]? = some ((arrV cA n g).setSlot j v)) (hp : P (updV g j v)) (hg : gm Y (f j) v) : ti_c D cl tys Y (.inr (t, n, f, P)) a H1 := by
  refine ⟨cA, ty, updV g j v, h1, by rw [e, arrV_store], fun i hi => ?_, hp⟩
  by_cases q : i = j
  · subst q
    simp only [updV, if_pos]
    exact hg
  · simp only [updV, if_neg q]
    exact h3 i hi
theorem am_at {a n j : Nat} {g : Nat → Value} {cA : ClassId} {v : Value} {H H1 : Heap} (h : H[a]? = some (arrV cA n g)) (e : H1[a]? = some ((arrV cA n g).setSlot j v)) (hj : j < n) : am a j v H1 := ⟨cA, n, updV g j v, by rw [e, arrV_store], hj, by simp [updV]⟩
theorem am_ne {a n i j : Nat} {g : Nat → Value} {cA : ClassId} {v v' : Value} {H H1 : Heap} (h : H[a]? = some (arrV cA n g)) (e : H1[a]? = some ((arrV cA n g).setSlot i v)) (hj : j ≠ i) (hm : am a j v' H) : am a j v' H1 := by
  obtain ⟨cB, n', g', h1, h2, h3⟩ := hm
  have e2 : arrV cA n g = arrV cB n' g' := Option.some.inj (h.symm.trans h1)
  rw [e2, arrV_store] at e
  exact ⟨cB, n', updV g' i v, e, h2, by simp only [updV, if_neg hj]; exact h3⟩
theorem ti_iast (hexec : p.tables.exec = Jvm.exec) (hb : c.code = cc) (hA : ∀ cA ty, tys[0]? = some (cA, ty) → ArrOfT s cA .int) (hT : TI D cl tys RT Y H) (hS0 : va_S (pW Y ws) H0 H locs) (ha : Y a = some r) (hw : ws.contains r = true) {n : Nat} {f : Nat → tv} {P : (Nat → Value) → Prop} (hR : RT r = .inr (0, n, f, P)) {i x : Int32} {b d lo hi : Int} (hix : iv i b d) (hn : (decide (0 ≤ b) && decide (d < (n : Int))) = true) (hu : ∀ j : Nat, b ≤ (j : Int) → (j : Int) ≤ d → ∃ u w : Int, f j = .inl (u, w) ∧ u ≤ lo ∧ hi ≤ w) (hx : iv x lo hi) (hxr : ∀ g, P g → P (updV g i.toNatClampNeg (.int x))) (hdg : decode cc pc = .ok (.iastore, 1))
    (kk : ∀ (H1 : Heap) (locs1 : List Loc), TI D cl tys RT Y H1 → va_S (pW Y ws) H0 H1 locs1 → (∀ q : Nat, q ≠ a → H1[q]? = H[q]?) → am a i.toNatClampNeg (.int x) H1 → (∀ (j : Nat) (v' : Value), j ≠ i.toNatClampNeg → am a j v' H → am a j v' H1) → W p l e R s m args below meth c H1 locs1 cells slots Q (F0 m (pc + 1) ls rest)) : W p l e R s m args below meth c H locs cells slots Q (F0 m pc ls (.int x :: .int i :: .ref a :: rest)) := by
  obtain ⟨cA, ty, g, h1, h2, h3, hp⟩ := ti_arr hT ha hR
  obtain ⟨k1, k2, k3⟩ := ti_ix hix hn
  refine W.iast hexec hb h2 (hA _ _ h1 n g) (fun q => by cases q) (by rw [arrV_size]; exact iv_in hix hn) rfl rfl hdg fun H1 e z oq => ?_
  refine kk H1 _ (hT.put ha ?_ oq) (hS0.put z oq ⟨r, hw, ha⟩) oq (am_at h2 e k1) (fun j v' hj h => am_ne h2 e hj h)
  rw [hR]
  obtain ⟨u, w, e1, e2, e3⟩ := hu _ k2 k3
  obtain ⟨g1, g2⟩ := hx
  exact ti_ast h1 h3 e (hxr _ hp) (by rw [e1]; exact ⟨x, rfl, ⟨by show u ≤ _; omega, by show _ ≤ w; omega⟩⟩)
theorem ti_last (hexec : p.tables.exec = Jvm.exec) (hb : c.code = cc) (hA : ∀ cA ty, tys[3]? = some (cA, ty) → ArrOfT s cA .long) (hT : TI D cl tys RT Y H) (hS0 : va_S (pW Y ws) H0 H locs) (ha : Y a = some r) (hw : ws.contains r = true) {n : Nat} {f : Nat → tv} {P : (Nat → Value) → Prop} (hR : RT r = .inr (3, n, f, P)) {i : Int32} {x : Int64} {b d : Int} (hix : iv i b d) (hn : (decide (0 ≤ b) && decide (d < (n : Int))) = true) (hu : ∀ j : Nat, b ≤ (j : Int) → (j : Int) ≤ d → f j = .inr (.inr 0)) (hxr : ∀ g, P g → P (updV g i.toNatClampNeg (.long x))) (hdg : decode cc pc = .ok (.lastore, 1))
    (kk : ∀ (H1 : Heap) (locs1 : List Loc), TI D cl tys RT Y H1 → va_S (pW Y ws) H0 H1 locs1 → (∀ q : Nat, q ≠ a → H1[q]? = H[q]?) → am a i.toNatClampNeg (.long x) H1 → (∀ (j : Nat) (v' : Value), j ≠ i.toNatClampNeg → am a j v' H → am a j v' H1) → W p l e R s m args below meth c H1 locs1 cells slots Q (F0 m (pc + 1) ls rest)) : W p l e R s m args below meth c H locs cells slots Q (F0 m pc ls (.long x :: .int i :: .ref a :: rest)) := by
  obtain ⟨cA, ty, g, h1, h2, h3, hp⟩ := ti_arr hT ha hR
  obtain ⟨k1, k2, k3⟩ := ti_ix hix hn
  refine W.last hexec hb h2 (hA _ _ h1 n g) (fun q => by cases q) (by rw [arrV_size]; exact iv_in hix hn) rfl rfl hdg fun H1 e z oq => ?_
  refine kk H1 _ (hT.put ha ?_ oq) (hS0.put z oq ⟨r, hw, ha⟩) oq (am_at h2 e k1) (fun j v' hj h => am_ne h2 e hj h)
  rw [hR]
  exact ti_ast h1 h3 e (hxr _ hp) (by rw [hu _ k2 k3]; exact ⟨x, rfl⟩)
theorem ti_nz {x : Int32} (h : iv x 0 1) : narrow .boolean (.int x) = .int x ∧ fits .boolean (.int x) = true := by
  rcases iv_01 h with rfl | rfl <;> exact ⟨rfl, rfl⟩
theorem ti_zast (hexec : p.tables.exec = Jvm.exec) (hb : c.code = cc) (hA : ∀ cA ty, tys[2]? = some (cA, ty) → ArrOfT s cA .boolean) (hT : TI D cl tys RT Y H) (hS0 : va_S (pW Y ws) H0 H locs) (ha : Y a = some r) (hw : ws.contains r = true) {n : Nat} {f : Nat → tv} {P : (Nat → Value) → Prop} (hR : RT r = .inr (2, n, f, P)) {i x : Int32} {b d lo hi : Int} (hix : iv i b d) (hn : (decide (0 ≤ b) && decide (d < (n : Int))) = true) (hu : ∀ j : Nat, b ≤ (j : Int) → (j : Int) ≤ d → ∃ u w : Int, f j = .inl (u, w) ∧ u ≤ lo ∧ hi ≤ w) (h01 : iv x 0 1) (hx : iv x lo hi) (hxr : ∀ g, P g → P (updV g i.toNatClampNeg (.int x))) (hdg : decode cc pc = .ok (.bastore, 1))
    (kk : ∀ (H1 : Heap) (locs1 : List Loc), TI D cl tys RT Y H1 → va_S (pW Y ws) H0 H1 locs1 → (∀ q : Nat, q ≠ a → H1[q]? = H[q]?) → am a i.toNatClampNeg (.int x) H1 → (∀ (j : Nat) (v' : Value), j ≠ i.toNatClampNeg → am a j v' H → am a j v' H1) → W p l e R s m args below meth c H1 locs1 cells slots Q (F0 m (pc + 1) ls rest)) : W p l e R s m args below meth c H locs cells slots Q (F0 m pc ls (.int x :: .int i :: .ref a :: rest)) := by
  obtain ⟨cA, ty, g, h1, h2, h3, hp⟩ := ti_arr hT ha hR
  obtain ⟨k1, k2, k3⟩ := ti_ix hix hn
  refine W.zast hexec hb h2 (hA _ _ h1 n g) (fun q => by cases q) (by rw [arrV_size]; exact iv_in hix hn) rfl rfl hdg fun H1 e z oq => ?_
  refine kk H1 _ (hT.put ha ?_ oq) (hS0.put z oq ⟨r, hw, ha⟩) oq (by rw [(ti_nz h01).1] at e; exact am_at h2 e k1) (fun j v' hj h => am_ne h2 e hj h)
  rw [hR]
  obtain ⟨u, w, e1, e2, e3⟩ := hu _ k2 k3
  obtain ⟨g1, g2⟩ := hx
  exact ti_ast h1 h3 e (by rw [(ti_nz h01).1]; exact hxr _ hp) (by rw [e1, (ti_nz h01).1]; exact ⟨x, rfl, ⟨by show u ≤ _; omega, by show _ ≤ w; omega⟩⟩)
theorem iv_byte (x : Int32) : iv x.toInt8.toInt32 (-128) 127 := by
  have h1 := Int8.le_toInt x.toInt8
  have h2 := Int8.toInt_lt x.toInt8
  have e : x.toInt8.toInt32.toInt = x.toInt8.toInt := by simp
  exact ⟨by omega, by omega⟩
theorem ti_bast (hexec : p.tables.exec = Jvm.exec) (hb : c.code = cc) (hA : ∀ cA ty, tys[1]? = some (cA, ty) → ArrOfT s cA .byte) (hT : TI D cl tys RT Y H) (hS0 : va_S (pW Y ws) H0 H locs) (ha : Y a = some r) (hw : ws.contains r = true) {n : Nat} {f : Nat → tv} {P : (Nat → Value) → Prop} (hR : RT r = .inr (1, n, f, P)) {i x : Int32} {b d : Int} (hix : iv i b d) (hn : (decide (0 ≤ b) && decide (d < (n : Int))) = true) (hu : ∀ j : Nat, b ≤ (j : Int) → (j : Int) ≤ d → f j = .inl (-128, 127)) (hxr : ∀ g, P g → P (updV g i.toNatClampNeg (.int x.toInt8.toInt32))) (hdg : decode cc pc = .ok (.bastore, 1))
    (kk : ∀ (H1 : Heap) (locs1 : List Loc), TI D cl tys RT Y H1 → va_S (pW Y ws) H0 H1 locs1 → (∀ q : Nat, q ≠ a → H1[q]? = H[q]?) → am a i.toNatClampNeg (.int x.toInt8.toInt32) H1 → (∀ (j : Nat) (v' : Value), j ≠ i.toNatClampNeg → am a j v' H → am a j v' H1) → W p l e R s m args below meth c H1 locs1 cells slots Q (F0 m (pc + 1) ls rest)) : W p l e R s m args below meth c H locs cells slots Q (F0 m pc ls (.int x :: .int i :: .ref a :: rest)) := by
  obtain ⟨cA, ty, g, h1, h2, h3, hp⟩ := ti_arr hT ha hR
  obtain ⟨k1, k2, k3⟩ := ti_ix hix hn
  refine W.bast hexec hb h2 (hA _ _ h1 n g) (fun q => by cases q) (by rw [arrV_size]; exact iv_in hix hn) rfl rfl hdg fun H1 e z oq => ?_
  refine kk H1 _ (hT.put ha ?_ oq) (hS0.put z oq ⟨r, hw, ha⟩) oq (am_at h2 e k1) (fun j v' hj h => am_ne h2 e hj h)
  rw [hR]
  refine ti_ast h1 h3 e (hxr _ hp) ?_
  rw [hu _ k2 k3]
  exact ⟨x.toInt8.toInt32, rfl, iv_byte x⟩
theorem ti_alen (hexec : p.tables.exec = Jvm.exec) (hb : c.code = cc) {t0 : Nat} {ty0 : FieldType} (hA : ∀ cA ty, tys[t0]? = some (cA, ty) → ArrOfT s cA ty0) (hT : TI D cl tys RT Y H) (ha : Y a = some r) {n : Nat} {f : Nat → tv} {P : (Nat → Value) → Prop} (hR : RT r = .inr (t0, n, f, P)) {v : Int32} (hv : Int32.ofNat n = v) (hdg : decode cc pc = .ok (.arraylength, 1))
    (kk : W p l e R s m args below meth c H locs cells slots Q (F0 m (pc + 1) ls (.int v :: rest))) : W p l e R s m args below meth c H locs cells slots Q (F0 m pc ls (.ref a :: rest)) := by
  obtain ⟨cA, ty, g, h1, h2, h3, hp⟩ := ti_arr hT ha hR
  exact W.alen (n := v) hexec hb h2 (hA _ _ h1 n g) (by rw [arrV_size]; exact hv) rfl rfl hdg kk
theorem arrV_congr {cA : ClassId} {n : Nat} {f g : Nat → Value} (h : ∀ j, j < n → f j = g j) : arrV cA n f = arrV cA n g := by
  have : (Array.ofFn (n := n) fun j => f j.val) = Array.ofFn (n := n) fun j => g j.val := by
    congr 1
    funext j
    exact h j.val j.isLt
  unfold arrV
  rw [this]
theorem ti_ints {n : Nat} {f : Nat → tv} {g : Nat → Value} (hu : ∀ j, j < n → ∃ u w : Int, f j = .inl (u, w)) (h3 : ∀ j : Nat, j < n → gm Y (f j) (g j)) : ∃ h : Nat → Int32, ∀ j, j < n → g j = .int (h j) := by
  refine ⟨fun j => match g j with
    | .int x => x
    | _ => 0, fun j hj => ?_⟩
  obtain ⟨u, w, e⟩ := hu j hj
  have h4 := h3 j hj
  rw [e] at h4
  obtain ⟨x, hx, -⟩ := h4
  show g j = .int (match g j with
    | .int x => x
    | _ => 0)
  rw [hx]
/-- System.arraycopy of a whole int array to another of its role -/
theorem ti_copyi (hexec : p.tables.exec = Jvm.exec) (hb : c.code = cc) (hml : c.maxLocals = ls.size) {own : String} {index : Nat} (hown : s.vm.findClass own = some m.cls) (hlink : (Cond.methodLink own index arraycopyName).before args s = true) (hnat : (Cond.native arraycopyName).before args s = true) (hstat : (Cond.static arraycopyName).before args s = true) (hini : (Cond.initialized "java/lang/System").before args s = true)
    {c0 : Nat → ClassId} (hK : va_K D cl (tysOf c0) s) (hT : TI D cl (tysOf c0) RT Y H) (hS : va_S (pW Y ws) H0 H locs) {a0 : Nat} (ha0 : Y a0 = some r) (ha : Y a = some r) (hw : ws.contains r = true) {n0 : Nat} {f : Nat → tv} {P : (Nat → Value) → Prop} (hR : RT r = .inr (0, n0, f, P)) (hPt : ∀ g, P g) (hu : ∀ j, j < n0 → ∃ u w : Int, f j = .inl (u, w)) (huu : ∀ i j, f i = f j) {n : Int32} (hn : n.toInt = (n0 : Int))
    (hframes : 1 ≤ R.frames) (hlocals : (rest.map fun v => v.category).sum + (nativeFrameWords "java/lang/System" "arraycopy" 5 + 11) ≤ R.locals) (hdg : decode cc pc = .ok (.invokestatic index, 3))
    (kk : ∀ (H1 : Heap) (locs1 : List Loc), TI D cl (tysOf c0) RT Y H1 → va_S (pW Y ws) H0 H1 locs1 → W p l e R s m args below meth c H1 locs1 cells slots Q (F0 m (pc + 3) ls rest)) : W p l e R s m args below meth c H locs cells slots Q (F0 m pc ls (.int n :: .int 0 :: .ref a :: .int 0 :: .ref a0 :: rest)) := by
  obtain ⟨cA, ty, g0, h1, h2, h3, -⟩ := ti_arr hT ha0 hR
  cases h1
  obtain ⟨cB, ty', g1, h1', h2', h3', -⟩ := ti_arr hT ha hR
  cases h1'
  obtain ⟨i0, e0⟩ := ti_ints hu h3
  obtain ⟨i1, e1⟩ := ti_ints hu h3'
  rw [arrV_congr e0] at h2
  rw [arrV_congr e1] at h2'
  have hnn : ¬ n < 0 := fun q => by have := i_lt q; have z : (0 : Int32).toInt = 0 := by decide
                                    omega
  have hnc : n.toNatClampNeg = n0 := by show n.toInt.toNat = n0; omega
  have z0 : (0 : Int32).toNatClampNeg = 0 := by decide
  intro T hTT X
  obtain ⟨-, k0, hk0, cm0, hkk0⟩ := (hK.2 0 _ rfl).1 n0 (fun j => .int (i0 j))
  obtain ⟨-, k1, hk1, cm1, hkk1⟩ := (hK.2 0 _ rfl).1 n0 (fun j => .int (i1 j))
  obtain ⟨vm', X', step⟩ := X.arraycopy hexec hown hlink hnat hstat hini (src := a0) (dst := a) (cs := vp_cell (c0 0) (n0, .inl i0)) (cd := vp_cell (c0 0) (n0, .inl i1)) (srcPos := 0) (destPos := 0) (n := n) (by rw [hTT]; exact h2) (by rw [hTT]; exact h2')
    (fun _ h => by cases h) (fun _ h => by cases h) (fun h => by cases h) (fun h => by cases h) hk0 hk1 hkk0 hkk1 rfl (by decide) (by decide) hnn
    (by show ¬ _ > ((arrV (c0 0) n0 (fun j => .int (i0 j))).slots.size : Int); rw [arrV_size]; have z : (0 : Int32).toInt = 0 := by decide
        omega)
    (by show ¬ _ > ((arrV (c0 0) n0 (fun j => .int (i1 j))).slots.size : Int); rw [arrV_size]; have z : (0 : Int32).toInt = 0 := by decide
        omega)
    (fun vm₁ _ i hi => by
      have e : (vp_cell (c0 0) (n0, .inl i0)).slots.getD ((0 : Int32).toNatClampNeg + i) .null = .int (i0 ((0 : Int32).toNatClampNeg + i)) := by
        show (arrV (c0 0) n0 (fun j => .int (i0 j))).slots.getD _ _ = _
        rw [Array.getD_eq_getD_getElem?, arrV_read _ _ (by omega)]
        rfl
      refine ⟨?_, ?_⟩
      · rw [e]; rfl
      · rw [e]; exact trivial)
    (g := F0 m pc ls (.int n :: .int 0 :: .ref a :: .int 0 :: .ref a0 :: rest)) rfl (by rw [hml]) (rest := rest) rfl (by rw [hb]; exact hdg) hframes (by show 2 * 0 + _ + _ ≤ _; omega)
  have ec : copied (vp_cell (c0 0) (n0, .inl i0)) (vp_cell (c0 0) (n0, .inl i1)) 0 0 n = vp_cell (c0 0) (n0, .inl (va_cpy i0 i1 (0 : Int32).toNatClampNeg (0 : Int32).toNatClampNeg n.toNatClampNeg)) := va_copied (fun z => .int z) (c0 0) (c0 0) i0 i1 (by omega)
  rw [ec] at X' step
  have hl : a < H.size := (Array.getElem?_eq_some_iff.mp h2').1
  have oq : ∀ q : Nat, q ≠ a → (H.setIfInBounds a (vp_cell (c0 0) (n0, .inl (va_cpy i0 i1 (0 : Int32).toNatClampNeg (0 : Int32).toNatClampNeg n.toNatClampNeg))))[q]? = H[q]? := fun q hq => by simp [Array.getElem?_setIfInBounds, Ne.symm hq]
  have hheap : ((T.setVm vm').setCell a (vp_cell (c0 0) (n0, .inl (va_cpy i0 i1 (0 : Int32).toNatClampNeg (0 : Int32).toNatClampNeg n.toNatClampNeg)))).heap = H.setIfInBounds a (vp_cell (c0 0) (n0, .inl (va_cpy i0 i1 (0 : Int32).toNatClampNeg (0 : Int32).toNatClampNeg n.toNatClampNeg))) := by rw [← hTT]; rfl
  obtain ⟨t, a1, b1⟩ := kk _ _ (hT.put ha (by
      rw [hR]
      refine ⟨c0 0, .int, fun j => .int (va_cpy i0 i1 (0 : Int32).toNatClampNeg (0 : Int32).toNatClampNeg n.toNatClampNeg j), rfl, (show (H.setIfInBounds a _)[a]? = some _ by simp [Array.getElem?_setIfInBounds, hl]; rfl), fun j hj => ?_, hPt _⟩
      have hj' : j < n0 := hj
      show gm Y (f j) (.int (va_cpy i0 i1 (0 : Int32).toNatClampNeg (0 : Int32).toNatClampNeg n.toNatClampNeg j))
      rw [pk_cpy_in (by omega) (by omega)]
      have q := h3 ((0 : Int32).toNatClampNeg + (j - (0 : Int32).toNatClampNeg)) (by omega)
      rw [e0 _ (by omega), huu _ j] at q
      exact q) oq) ⟨by simp; exact hS.1, fun q g1 g2 => by
      rw [oq q (fun e => g2 (by rw [e]; exact ⟨r, hw, ha⟩))]
      exact hS.2.1 q g1 g2, fun q hq => by
      rcases List.mem_append.mp hq with h | h
      · exact hS.2.2 q h
      · obtain ⟨z, -, hz⟩ := List.mem_map.mp h
        rw [← hz]
        exact ⟨r, hw, ha⟩⟩ _ hheap X'
  exact ⟨t, step t a1, b1⟩
/-- contracts over typed heaps -/
def TQi (B : Int32 → Heap → Prop) (Y : Nat → Option Nat) (ws : List Nat) : Array Value → State → Outcome → State → Prop := fun _ st oc t => (∃ x : Int32, oc = .returned (some (.int x)) ∧ B x t.heap) ∧ va_F (pW Y ws) st t
def TQv (B : Heap → Prop) (Y : Nat → Option Nat) (ws : List Nat) : Array Value → State → Outcome → State → Prop := fun _ st oc t => (oc = .returned none ∧ B t.heap) ∧ va_F (pW Y ws) st t
def TQr (B : Nat → Heap → Prop) (Y : Nat → Option Nat) (ws : List Nat) : Array Value → State → Outcome → State → Prop := fun _ st oc t => (∃ x : Nat, oc = .returned (some (.ref x)) ∧ B x t.heap) ∧ va_F (pW Y ws) st t
def TQl (B : Int64 → Heap → Prop) (Y : Nat → Option Nat) (ws : List Nat) : Array Value → State → Outcome → State → Prop := fun _ st oc t => (∃ x : Int64, oc = .returned (some (.long x)) ∧ B x t.heap) ∧ va_F (pW Y ws) st t
abbrev TP (D : va_G) (cl : List vw_C) (tys : List (ClassId × FieldType)) (H : Heap) (av : List Value) : Array Value → State → Prop := va_Pc av (fun U => U.heap = H ∧ va_K D cl tys U)
theorem tp_blind {av : List Value} : FrameBlind (TP D cl tys H av) := fun a U g mk q => ⟨q.1, q.2.1, va_K.moved (u := U) (U := U.calling g mk a) (Vm.Alike.refl U.vm) q.2.2⟩
theorem ti_preS {As : List Value} (hK : va_K D cl tys s) : PreS s H (TP D cl tys H As) As := ⟨tp_blind, fun _ hU hW => ⟨rfl, hU, va_K.moved hW.alike hK⟩⟩
theorem ti_recv (hK : va_K D cl tys s) (hT : TI D cl tys RT Y H) (ha : Y a = some r) {ci : Nat} {fss : List tv} {P : List Value → Prop} (hR : RT r = .inl (ci, fss, P)) {q : vw_C} (hc : cl[ci]? = some q) : ∃ cell : Cell, H[a]? = some cell ∧ cell.vm.isStatics = false ∧ s.vm.findClass q.1 = some cell.cls := by
  obtain ⟨fs, h1, -⟩ := ti_obj hT ha hR
  exact va_recv hK (va_P1 h1) hc (q0 := 0) rfl
theorem ti_preV {As : List Value} (hK : va_K D cl tys s) (hT : TI D cl tys RT Y H) (ha : Y a = some r) {ci : Nat} {fss : List tv} {P : List Value → Prop} (hR : RT r = .inl (ci, fss, P)) {C : String} {T : u_T} {N : Nat} (hc : cl[ci]? = some (C, T, N)) : PreV s H C a (TP D cl tys H (.ref a :: As)) As :=
  ⟨tp_blind, ti_recv hK hT ha hR hc, fun _ hU hW => ⟨rfl, hU, va_K.moved hW.alike hK⟩⟩
variable {st0 : List Value} {aa : Array Value} {mc ms : Nat}
theorem ti_calli {A0 : Nat → Prop} {B : Int32 → Heap → Prop} (hr : va_Run p l e R s m args below meth c H locs cells slots mc ms (F0 m pc ls st0) rest (TQi B Y ws aa) (pW Y ws)) (hS : va_S A0 H0 H locs) (hA : ∀ q, pW Y ws q → A0 q)
    (kk : ∀ (x : Int32) (H1 : Heap) (locs1 : List Loc), B x H1 → va_S A0 H0 H1 locs1 → H.size ≤ H1.size → (∀ q : Nat, q < H.size → ¬ pW Y ws q → H1[q]? = H[q]?) → W p l e R s m args below meth c H1 locs1 (cells + mc) (slots + ms) Q (F0 m (pc + 3) ls (.int x :: rest))) : W p l e R s m args below meth c H locs cells slots Q (F0 m pc ls st0) := by
  intro T hT X
  obtain ⟨v, st₀, t, T', L, h0, X', hL, e1, e2, ⟨⟨x, hv, hb⟩, hz, hk⟩, st⟩ := hr T hT X
  cases hv
  rw [h0] at hz hk
  obtain ⟨t2, a1, b1⟩ := kk x T'.heap (locs ++ L) (by rw [e1]; exact hb) ⟨Nat.le_trans hS.1 (by rw [e1]; exact hz), fun q h1 h2 => by rw [e1, hk q (Nat.lt_of_lt_of_le h1 hS.1) (fun z => h2 (hA q z))]; exact hS.2.1 q h1 h2, fun q hq => by
      rcases List.mem_append.mp hq with h | h
      · exact hS.2.2 q h
      · exact hA _ (hL q h)⟩ (by rw [e1]; exact hz) (fun q h1 h2 => by rw [e1]; exact hk q h1 h2) T' rfl X'
  exact ⟨t2, st t2 a1, b1⟩
theorem ti_callv {A0 : Nat → Prop} {B : Heap → Prop} (hr : va_Run p l e R s m args below meth c H locs cells slots mc ms (F0 m pc ls st0) rest (TQv B Y ws aa) (pW Y ws)) (hS : va_S A0 H0 H locs) (hA : ∀ q, pW Y ws q → A0 q)
    (kk : ∀ (H1 : Heap) (locs1 : List Loc), B H1 → va_S A0 H0 H1 locs1 → H.size ≤ H1.size → (∀ q : Nat, q < H.size → ¬ pW Y ws q → H1[q]? = H[q]?) → W p l e R s m args below meth c H1 locs1 (cells + mc) (slots + ms) Q (F0 m (pc + 3) ls rest)) : W p l e R s m args below meth c H locs cells slots Q (F0 m pc ls st0) := by
  intro T hT X
  obtain ⟨v, st₀, t, T', L, h0, X', hL, e1, e2, ⟨⟨hv, hb⟩, hz, hk⟩, st⟩ := hr T hT X
  cases hv
  rw [h0] at hz hk
  obtain ⟨t2, a1, b1⟩ := kk T'.heap (locs ++ L) (by rw [e1]; exact hb) ⟨Nat.le_trans hS.1 (by rw [e1]; exact hz), fun q h1 h2 => by rw [e1, hk q (Nat.lt_of_lt_of_le h1 hS.1) (fun z => h2 (hA q z))]; exact hS.2.1 q h1 h2, fun q hq => by
      rcases List.mem_append.mp hq with h | h
      · exact hS.2.2 q h
      · exact hA _ (hL q h)⟩ (by rw [e1]; exact hz) (fun q h1 h2 => by rw [e1]; exact hk q h1 h2) T' rfl X'
  exact ⟨t2, st t2 a1, b1⟩
theorem ti_callr {A0 : Nat → Prop} {B : Nat → Heap → Prop} (hr : va_Run p l e R s m args below meth c H locs cells slots mc ms (F0 m pc ls st0) rest (TQr B Y ws aa) (pW Y ws)) (hS : va_S A0 H0 H locs) (hA : ∀ q, pW Y ws q → A0 q)
    (kk : ∀ (x : Nat) (H1 : Heap) (locs1 : List Loc), B x H1 → va_S A0 H0 H1 locs1 → H.size ≤ H1.size → (∀ q : Nat, q < H.size → ¬ pW Y ws q → H1[q]? = H[q]?) → W p l e R s m args below meth c H1 locs1 (cells + mc) (slots + ms) Q (F0 m (pc + 3) ls (.ref x :: rest))) : W p l e R s m args below meth c H locs cells slots Q (F0 m pc ls st0) := by
  intro T hT X
  obtain ⟨v, st₀, t, T', L, h0, X', hL, e1, e2, ⟨⟨x, hv, hb⟩, hz, hk⟩, st⟩ := hr T hT X
  cases hv
  rw [h0] at hz hk
  obtain ⟨t2, a1, b1⟩ := kk x T'.heap (locs ++ L) (by rw [e1]; exact hb) ⟨Nat.le_trans hS.1 (by rw [e1]; exact hz), fun q h1 h2 => by rw [e1, hk q (Nat.lt_of_lt_of_le h1 hS.1) (fun z => h2 (hA q z))]; exact hS.2.1 q h1 h2, fun q hq => by
      rcases List.mem_append.mp hq with h | h
      · exact hS.2.2 q h
      · exact hA _ (hL q h)⟩ (by rw [e1]; exact hz) (fun q h1 h2 => by rw [e1]; exact hk q h1 h2) T' rfl X'
  exact ⟨t2, st t2 a1, b1⟩
theorem ti_calll {A0 : Nat → Prop} {B : Int64 → Heap → Prop} (hr : va_Run p l e R s m args below meth c H locs cells slots mc ms (F0 m pc ls st0) rest (TQl B Y ws aa) (pW Y ws)) (hS : va_S A0 H0 H locs) (hA : ∀ q, pW Y ws q → A0 q)
    (kk : ∀ (x : Int64) (H1 : Heap) (locs1 : List Loc), B x H1 → va_S A0 H0 H1 locs1 → H.size ≤ H1.size → (∀ q : Nat, q < H.size → ¬ pW Y ws q → H1[q]? = H[q]?) → W p l e R s m args below meth c H1 locs1 (cells + mc) (slots + ms) Q (F0 m (pc + 3) ls (.long x :: rest))) : W p l e R s m args below meth c H locs cells slots Q (F0 m pc ls st0) := by
  intro T hT X
  obtain ⟨v, st₀, t, T', L, h0, X', hL, e1, e2, ⟨⟨x, hv, hb⟩, hz, hk⟩, st⟩ := hr T hT X
  cases hv
  rw [h0] at hz hk
  obtain ⟨t2, a1, b1⟩ := kk x T'.heap (locs ++ L) (by rw [e1]; exact hb) ⟨Nat.le_trans hS.1 (by rw [e1]; exact hz), fun q h1 h2 => by rw [e1, hk q (Nat.lt_of_lt_of_le h1 hS.1) (fun z => h2 (hA q z))]; exact hS.2.1 q h1 h2, fun q hq => by
      rcases List.mem_append.mp hq with h | h
      · exact hS.2.2 q h
      · exact hA _ (hL q h)⟩ (by rw [e1]; exact hz) (fun q h1 h2 => by rw [e1]; exact hk q h1 h2) T' rfl X'
  exact ⟨t2, st t2 a1, b1⟩
end TIR
section TIDG
variable {p : Program} {l : Launch} {e : Env} {R : Room} {s : State} {m : MethodId} {args : Array Value} {below : List Frame} {meth : Method} {c : Code} {H : Heap} {locs : List Loc} {cells slots : Nat} {Q : State → Prop}
variable {cc : ByteArray} {pc : Nat} {ls : Array Slot} {rest : List Value} {D : va_G} {cl : List vw_C} {tys : List (ClassId × FieldType)} {RT : Nat → tsp} {Y : Nat → Option Nat} {a r : Nat} {H0 : Heap} {ws : List Nat}
theorem ti_ialdD (hexec : p.tables.exec = Jvm.exec) (hb : c.code = cc) (hA : ∀ cA ty, tys[0]? = some (cA, ty) → ArrOfT s cA .int) (hT : TI D cl tys RT Y H) (ha : Y a = some r) {n : Nat} {f : Nat → tv} {P : (Nat → Value) → Prop} (hR : RT r = .inr (0, n, f, P)) {i : Int32} {b d : Int} (hix : iv i b d) (hn : (decide (0 ≤ b) && decide (d < (n : Int))) = true) (hu : ∀ j : Nat, ∃ u w : Int, f j = .inl (u, w)) (hdg : decode cc pc = .ok (.iaload, 1))
    (kk : ∀ x : Int32, gm Y (f i.toNatClampNeg) (.int x) → am a i.toNatClampNeg (.int x) H → W p l e R s m args below meth c H locs cells slots Q (F0 m (pc + 1) ls (.int x :: rest))) : W p l e R s m args below meth c H locs cells slots Q (F0 m pc ls (.int i :: .ref a :: rest)) := by
  obtain ⟨cA, ty, g, h1, h2, h3, hp⟩ := ti_arr hT ha hR
  obtain ⟨k1, k2, k3⟩ := ti_ix hix hn
  have h4 := h3 _ k1
  have h5 := h4
  obtain ⟨u, w, e1⟩ := hu i.toNatClampNeg
  rw [e1] at h4
  obtain ⟨x, hx, hx2⟩ := h4
  rw [hx] at h5
  exact W.iald (v := .int x) hexec hb h2 (hA _ _ h1 n g) (fun q => by cases q) (by rw [arrV_size]; exact iv_in hix hn) (by rw [arrV_read _ _ k1, hx]) rfl rfl hdg (kk x h5 ⟨cA, n, g, h2, k1, hx⟩)
theorem ti_zaldD (hexec : p.tables.exec = Jvm.exec) (hb : c.code = cc) (hA : ∀ cA ty, tys[2]? = some (cA, ty) → ArrOfT s cA .boolean) (hT : TI D cl tys RT Y H) (ha : Y a = some r) {n : Nat} {f : Nat → tv} {P : (Nat → Value) → Prop} (hR : RT r = .inr (2, n, f, P)) {i : Int32} {b d : Int} (hix : iv i b d) (hn : (decide (0 ≤ b) && decide (d < (n : Int))) = true) (hu : ∀ j : Nat, ∃ u w : Int, f j = .inl (u, w)) (hdg : decode cc pc = .ok (.baload, 1))
    (kk : ∀ x : Int32, gm Y (f i.toNatClampNeg) (.int x) → am a i.toNatClampNeg (.int x) H → W p l e R s m args below meth c H locs cells slots Q (F0 m (pc + 1) ls (.int x :: rest))) : W p l e R s m args below meth c H locs cells slots Q (F0 m pc ls (.int i :: .ref a :: rest)) := by
  obtain ⟨cA, ty, g, h1, h2, h3, hp⟩ := ti_arr hT ha hR
  obtain ⟨k1, k2, k3⟩ := ti_ix hix hn
  have h4 := h3 _ k1
  have h5 := h4
  obtain ⟨u, w, e1⟩ := hu i.toNatClampNeg
  rw [e1] at h4
  obtain ⟨x, hx, hx2⟩ := h4
  rw [hx] at h5
  exact W.zald (v := .int x) hexec hb h2 (hA _ _ h1 n g) (fun q => by cases q) (by rw [arrV_size]; exact iv_in hix hn) (by rw [arrV_read _ _ k1, hx]) rfl rfl hdg (kk x h5 ⟨cA, n, g, h2, k1, hx⟩)
theorem ti_iastD (hexec : p.tables.exec = Jvm.exec) (hb : c.code = cc) (hA : ∀ cA ty, tys[0]? = some (cA, ty) → ArrOfT s cA .int) (hT : TI D cl tys RT Y H) (hS0 : va_S (pW Y ws) H0 H locs) (ha : Y a = some r) (hw : ws.contains r = true) {n : Nat} {f : Nat → tv} {P : (Nat → Value) → Prop} (hR : RT r = .inr (0, n, f, P)) {i x : Int32} {b d : Int} (hix : iv i b d) (hn : (decide (0 ≤ b) && decide (d < (n : Int))) = true) (hg : gm Y (f i.toNatClampNeg) (.int x)) (hxr : ∀ g, P g → P (updV g i.toNatClampNeg (.int x))) (hdg : decode cc pc = .ok (.iastore, 1))
    (kk : ∀ (H1 : Heap) (locs1 : List Loc), TI D cl tys RT Y H1 → va_S (pW Y ws) H0 H1 locs1 → (∀ q : Nat, q ≠ a → H1[q]? = H[q]?) → am a i.toNatClampNeg (.int x) H1 → (∀ (j : Nat) (v' : Value), j ≠ i.toNatClampNeg → am a j v' H → am a j v' H1) → W p l e R s m args below meth c H1 locs1 cells slots Q (F0 m (pc + 1) ls rest)) : W p l e R s m args below meth c H locs cells slots Q (F0 m pc ls (.int x :: .int i :: .ref a :: rest)) := by
  obtain ⟨cA, ty, g, h1, h2, h3, hp⟩ := ti_arr hT ha hR
  obtain ⟨k1, k2, k3⟩ := ti_ix hix hn
  refine W.iast hexec hb h2 (hA _ _ h1 n g) (fun q => by cases q) (by rw [arrV_size]; exact iv_in hix hn) rfl rfl hdg fun H1 e z oq => ?_
  refine kk H1 _ (hT.put ha ?_ oq) (hS0.put z oq ⟨r, hw, ha⟩) oq (am_at h2 e k1) (fun j v' hj h => am_ne h2 e hj h)
  rw [hR]
  exact ti_ast h1 h3 e (hxr _ hp) hg
/-- stores whose array is typed anew behind them -/
theorem xast (hexec : p.tables.exec = Jvm.exec) (hb : c.code = cc) (hA : ∀ cA ty, tys[0]? = some (cA, ty) → ArrOfT s cA .int) (hT : TI D cl tys RT Y H) (hS0 : va_S (pW Y ws) H0 H locs) (ha : Y a = some r) (hw : ws.contains r = true) {n : Nat} {f : Nat → tv} {P : (Nat → Value) → Prop} (hR : RT r = .inr (0, n, f, P)) {i x : Int32} {b d : Int} (hix : iv i b d) (hn : (decide (0 ≤ b) && decide (d < (n : Int))) = true) (hdg : decode cc pc = .ok (.iastore, 1))
    (kk : ∀ (cA : ClassId) (ty : FieldType) (g : Nat → Value) (H1 : Heap) (locs1 : List Loc), tys[0]? = some (cA, ty) → (∀ j : Nat, j < n → gm Y (f j) (g j)) → P g → H1[a]? = some (arrV cA n (updV g i.toNatClampNeg (.int x))) → va_S (pW Y ws) H0 H1 locs1 → (∀ q : Nat, q ≠ a → H1[q]? = H[q]?) → W p l e R s m args below meth c H1 locs1 cells slots Q (F0 m (pc + 1) ls rest)) : W p l e R s m args below meth c H locs cells slots Q (F0 m pc ls (.int x :: .int i :: .ref a :: rest)) := by
  obtain ⟨cA, ty, g, h1, h2, h3, hp⟩ := ti_arr hT ha hR
  refine W.iast hexec hb h2 (hA _ _ h1 n g) (fun q => by cases q) (by rw [arrV_size]; exact iv_in hix hn) rfl rfl hdg fun H1 e z oq => ?_
  exact kk cA ty g H1 _ h1 h3 hp (by rw [e, arrV_store]) (hS0.put z oq ⟨r, hw, ha⟩) oq
theorem xzst (hexec : p.tables.exec = Jvm.exec) (hb : c.code = cc) (hA : ∀ cA ty, tys[2]? = some (cA, ty) → ArrOfT s cA .boolean) (hT : TI D cl tys RT Y H) (hS0 : va_S (pW Y ws) H0 H locs) (ha : Y a = some r) (hw : ws.contains r = true) {n : Nat} {f : Nat → tv} {P : (Nat → Value) → Prop} (hR : RT r = .inr (2, n, f, P)) {i x : Int32} {b d : Int} (hix : iv i b d) (hn : (decide (0 ≤ b) && decide (d < (n : Int))) = true) (h01 : iv x 0 1) (hdg : decode cc pc = .ok (.bastore, 1))
    (kk : ∀ (cA : ClassId) (ty : FieldType) (g : Nat → Value) (H1 : Heap) (locs1 : List Loc), tys[2]? = some (cA, ty) → (∀ j : Nat, j < n → gm Y (f j) (g j)) → P g → H1[a]? = some (arrV cA n (updV g i.toNatClampNeg (.int x))) → va_S (pW Y ws) H0 H1 locs1 → (∀ q : Nat, q ≠ a → H1[q]? = H[q]?) → W p l e R s m args below meth c H1 locs1 cells slots Q (F0 m (pc + 1) ls rest)) : W p l e R s m args below meth c H locs cells slots Q (F0 m pc ls (.int x :: .int i :: .ref a :: rest)) := by
  obtain ⟨cA, ty, g, h1, h2, h3, hp⟩ := ti_arr hT ha hR
  refine W.zast hexec hb h2 (hA _ _ h1 n g) (fun q => by cases q) (by rw [arrV_size]; exact iv_in hix hn) rfl rfl hdg fun H1 e z oq => ?_
  exact kk cA ty g H1 _ h1 h3 hp (by rw [e, (ti_nz h01).1, arrV_store]) (hS0.put z oq ⟨r, hw, ha⟩) oq
end TIDG
def jv (x : Int64) (lo hi : Int) : Prop := lo ≤ x.toInt ∧ x.toInt ≤ hi
theorem jv_c {x : Int64} {k : Int} (h : x.toInt = k) : jv x k k := ⟨by omega, by omega⟩
theorem jv_i {x : Int32} {a b : Int} (h : iv x a b) : jv x.toInt64 a b := by
  have e : x.toInt64.toInt = x.toInt := by simp
  unfold jv
  rw [e]
  exact h
theorem jv_e (x : Int32) : x.toInt64.toInt = x.toInt := by simp
theorem jv_top (x : Int64) : jv x (-9223372036854775808) 9223372036854775807 := by
  have h1 := Int64.le_toInt x
  have h2 := Int64.toInt_lt x
  exact ⟨by omega, by omega⟩
theorem jc_lt {x y : Int64} (h : lg_cmp x y < 0) : x.toInt < y.toInt := by
  unfold lg_cmp at h
  split at h
  · exact absurd h (by decide)
  · split at h
    · exact absurd h (by decide)
    · next h1 h2 =>
      have := Int64.le_iff_toInt_le.mp (Int64.not_lt.mp h1)
      have h3 : ¬ x.toInt = y.toInt := fun q => h2 (Int64.toInt_inj.mp q)
      omega
theorem jc_nlt {x y : Int64} (h : ¬ lg_cmp x y < 0) : y.toInt ≤ x.toInt := by
  unfold lg_cmp at h
  split at h
  · next h1 => exact Int.le_of_lt (Int64.lt_iff_toInt_lt.mp h1)
  · split at h
    · next h1 h2 => rw [h2]; exact Int.le_refl _
    · exact absurd (by decide) h
theorem jc_gt {x y : Int64} (h : 0 < lg_cmp x y) : y.toInt < x.toInt := by
  unfold lg_cmp at h
  split at h
  · next h1 => exact Int64.lt_iff_toInt_lt.mp h1
  · split at h
    · exact absurd h (by decide)
    · exact absurd h (by decide)
theorem jc_ngt {x y : Int64} (h : ¬ 0 < lg_cmp x y) : x.toInt ≤ y.toInt := by
  unfold lg_cmp at h
  split at h
  · exact absurd (by decide) h
  · next h1 => exact Int64.le_iff_toInt_le.mp (Int64.not_lt.mp h1)
theorem jc_ge {x y : Int64} (h : 0 ≤ lg_cmp x y) : y.toInt ≤ x.toInt := jc_nlt (Int32.not_lt.mpr h)
theorem jc_nge {x y : Int64} (h : ¬ 0 ≤ lg_cmp x y) : x.toInt < y.toInt := jc_lt (Int32.not_le.mp h)
theorem jc_le {x y : Int64} (h : lg_cmp x y ≤ 0) : x.toInt ≤ y.toInt := jc_ngt (Int32.not_lt.mpr h)
theorem jc_nle {x y : Int64} (h : ¬ lg_cmp x y ≤ 0) : y.toInt < x.toInt := jc_gt (Int32.not_le.mp h)
theorem jc_eq {x y : Int64} (h : lg_cmp x y = 0) : x.toInt = y.toInt := by
  have h1 := jc_le (x := x) (y := y) (by rw [h]; decide)
  have h2 := jc_ge (x := x) (y := y) (by rw [h]; decide)
  omega
theorem jc_ne {x y : Int64} (h : ¬ lg_cmp x y = 0) : ¬ x.toInt = y.toInt := by
  intro q
  have : x = y := Int64.toInt_inj.mp q
  subst this
  exact h (by simp [lg_cmp])
/-- Math.max, min, abs of bounded numbers -/
theorem iv_max {x y : Int32} {a b c d lo hi : Int} (hx : iv x a b) (hy : iv y c d) (hn : ((decide (lo ≤ a) || decide (lo ≤ c)) && decide (b ≤ hi) && decide (d ≤ hi)) = true) : iv (if x < y then y else x) lo hi := by
  simp only [Bool.and_eq_true, Bool.or_eq_true, decide_eq_true_eq] at hn
  obtain ⟨h1, h2⟩ := hx
  obtain ⟨h3, h4⟩ := hy
  split
  · next h => have := i_lt h; exact ⟨by omega, by omega⟩
  · next h => have := i_nlt h; exact ⟨by omega, by omega⟩
theorem iv_min {x y : Int32} {a b c d lo hi : Int} (hx : iv x a b) (hy : iv y c d) (hn : (decide (lo ≤ a) && decide (lo ≤ c) && (decide (b ≤ hi) || decide (d ≤ hi))) = true) : iv (if y < x then y else x) lo hi := by
  simp only [Bool.and_eq_true, Bool.or_eq_true, decide_eq_true_eq] at hn
  obtain ⟨h1, h2⟩ := hx
  obtain ⟨h3, h4⟩ := hy
  split
  · next h => have := i_lt h; exact ⟨by omega, by omega⟩
  · next h => have := i_nlt h; exact ⟨by omega, by omega⟩
theorem ms_up {x z : Int32} {hi : Int} {n : Nat} (h : (hi - x.toInt).toNat < n + 1) (hz : x.toInt < z.toInt) (hb : z.toInt ≤ hi) : (hi - z.toInt).toNat < n := by omega
theorem ms_dn {x z : Int32} {lo : Int} {n : Nat} (h : (x.toInt - lo).toNat < n + 1) (hz : z.toInt < x.toInt) (hb : lo ≤ z.toInt) : (z.toInt - lo).toNat < n := by omega
theorem jv_w {x : Int64} {a b c d : Int} (h : jv x a b) (hn : (decide (c ≤ a) && decide (b ≤ d)) = true) : jv x c d := by
  obtain ⟨h1, h2⟩ := h
  simp only [Bool.and_eq_true, decide_eq_true_eq] at hn
  exact ⟨by omega, by omega⟩
theorem fi.lt {D : va_G} {cl : List vw_C} {a ci k : Nat} {v : Value} {H : Heap} (h : fi D cl a ci k v H) : a < H.size := by
  obtain ⟨fs, h1, -⟩ := h
  exact h1.lt
theorem fi.call {D : va_G} {cl : List vw_C} {a ci k : Nat} {v : Value} {H H1 : Heap} {A : Nat → Prop} (h : fi D cl a ci k v H) (hk : ∀ q : Nat, q < H.size → ¬ A q → H1[q]? = H[q]?) (hn : ¬ A a) : fi D cl a ci k v H1 := h.kept (hk a h.lt hn)
theorem am.call {a j : Nat} {v : Value} {H H1 : Heap} {A : Nat → Prop} (h : am a j v H) (hk : ∀ q : Nat, q < H.size → ¬ A q → H1[q]? = H[q]?) (hn : ¬ A a) : am a j v H1 := by
  refine h.kept (hk a ?_ hn)
  obtain ⟨cA, n, g, h1, -⟩ := h
  exact (Array.getElem?_eq_some_iff.mp h1).1
theorem ix_ne {i j : Int32} {a b c d : Int} (hi : iv i a b) (hj : iv j c d) (hn : (decide (0 ≤ a) && decide (0 ≤ c) && (decide (b < c) || decide (d < a))) = true) : i.toNatClampNeg ≠ j.toNatClampNeg := by
  simp only [Bool.and_eq_true, Bool.or_eq_true, decide_eq_true_eq] at hn
  obtain ⟨h1, h2⟩ := hi
  obtain ⟨h3, h4⟩ := hj
  show i.toInt.toNat ≠ j.toInt.toNat
  omega
theorem iv_mulE {x y : Int32} {a b c d : Int} (hx : iv x a b) (hy : iv y c d) (hn : (decide (-2147483648 ≤ a * c) && decide (-2147483648 ≤ a * d) && decide (-2147483648 ≤ b * c) && decide (-2147483648 ≤ b * d) && decide (a * c ≤ 2147483647) && decide (a * d ≤ 2147483647) && decide (b * c ≤ 2147483647) && decide (b * d ≤ 2147483647)) = true) : (x * y).toInt = x.toInt * y.toInt := by
  simp only [Bool.and_eq_true, decide_eq_true_eq] at hn
  obtain ⟨⟨⟨⟨⟨⟨⟨k1, k2⟩, k3⟩, k4⟩, m1⟩, m2⟩, m3⟩, m4⟩ := hn
  have h := iv_mulc hx.1 hx.2 hy.1 hy.2 k1 k2 k3 k4 m1 m2 m3 m4
  rw [Int32.toInt_mul]
  exact iv_bm h.1 h.2
theorem jv_bm {n : Int} (h1 : -9223372036854775808 ≤ n) (h2 : n ≤ 9223372036854775807) : n.bmod (2 ^ 64) = n := Int.bmod_eq_of_le_mul_two (by omega) (by omega)
theorem jv_addE {x y : Int64} {a b c d : Int} (hx : jv x a b) (hy : jv y c d) (hn : (decide (-9223372036854775808 ≤ a + c) && decide (b + d ≤ 9223372036854775807)) = true) : (x + y).toInt = x.toInt + y.toInt := by
  simp only [Bool.and_eq_true, decide_eq_true_eq] at hn
  obtain ⟨h1, h2⟩ := hx
  obtain ⟨h3, h4⟩ := hy
  rw [Int64.toInt_add]
  exact jv_bm (by omega) (by omega)
theorem jv_subE {x y : Int64} {a b c d : Int} (hx : jv x a b) (hy : jv y c d) (hn : (decide (-9223372036854775808 ≤ a - d) && decide (b - c ≤ 9223372036854775807)) = true) : (x - y).toInt = x.toInt - y.toInt := by
  simp only [Bool.and_eq_true, decide_eq_true_eq] at hn
  obtain ⟨h1, h2⟩ := hx
  obtain ⟨h3, h4⟩ := hy
  rw [Int64.toInt_sub]
  exact jv_bm (by omega) (by omega)
theorem jv_l2i {x : Int64} {a b : Int} (hx : jv x a b) (hn : (decide (-2147483648 ≤ a) && decide (b ≤ 2147483647)) = true) : x.toInt32.toInt = x.toInt := by
  simp only [Bool.and_eq_true, decide_eq_true_eq] at hn
  obtain ⟨h1, h2⟩ := hx
  rw [Int64.toInt_toInt32]
  exact iv_bm (by omega) (by omega)
theorem jnz {x : Int64} (h : ¬ x.toInt = (0 : Int64).toInt) : ¬ x = 0 := fun q => h (by rw [q])
theorem lv_lne {x : Int64} {a b : Int} (h : jv x a b) (hn : (decide (0 < a) || decide (b < 0)) = true) : ¬ x = 0 := by
  intro q
  obtain ⟨h1, h2⟩ := h
  have z : (0 : Int64).toInt = 0 := by decide
  rw [q, z] at h1 h2
  simp only [Bool.or_eq_true, decide_eq_true_eq] at hn
  omega
def mindP (fs : List Value) : Prop := ∀ g t : Int32, fs[7]? = some (.int g) → fs[8]? = some (.int t) → 1 ≤ g.toInt → 0 ≤ t.toInt
theorem mind_set {k : Nat} {v : Value} (h7 : k ≠ 7) (h8 : k ≠ 8) (fs : List Value) (h : mindP fs) : mindP (fs.set k v) := by
  intro g t e1 e2
  rw [List.getElem?_set_ne h7] at e1
  rw [List.getElem?_set_ne h8] at e2
  exact h g t e1 e2
def bestP (g : Nat → Value) : Prop := ∀ x y : Int32, g 3 = .int x → g 4 = .int y → 1 ≤ x.toInt → 0 ≤ y.toInt
theorem best_set {k : Nat} {v : Value} (h3 : k ≠ 3) (h4 : k ≠ 4) (g : Nat → Value) (h : bestP g) : bestP (updV g k v) := by
  intro x y e1 e2
  rw [show updV g k v 3 = g 3 by simp only [updV, if_neg (Ne.symm h3)]] at e1
  rw [show updV g k v 4 = g 4 by simp only [updV, if_neg (Ne.symm h4)]] at e2
  exact h x y e1 e2
theorem one_j {f : Nat → tv} (k : Nat) {kI u w lo hi : Int} (hk : (k : Int) = kI) (e : f k = .inl (u, w)) (h1 : lo ≤ u) (h2 : w ≤ hi) : ∀ j : Nat, kI ≤ (j : Int) → (j : Int) ≤ kI → ∃ u w : Int, f j = .inl (u, w) ∧ lo ≤ u ∧ w ≤ hi := by
  intro j a b
  have ej : j = k := by omega
  subst ej
  exact ⟨u, w, e, h1, h2⟩
theorem one_s {f : Nat → tv} (k : Nat) {kI u w lo hi : Int} (hk : (k : Int) = kI) (e : f k = .inl (u, w)) (h1 : u ≤ lo) (h2 : hi ≤ w) : ∀ j : Nat, kI ≤ (j : Int) → (j : Int) ≤ kI → ∃ u w : Int, f j = .inl (u, w) ∧ u ≤ lo ∧ hi ≤ w := by
  intro j a b
  have ej : j = k := by omega
  subst ej
  exact ⟨u, w, e, h1, h2⟩
theorem rng_ld {f : Nat → tv} (lo hi : Nat) {LO HI : Int} (h : ((List.range (hi + 1 - lo)).all fun i => match f (lo + i) with
    | .inl b => decide (LO ≤ b.1) && decide (b.2 ≤ HI)
    | _ => false) = true) : ∀ j : Nat, (lo : Int) ≤ (j : Int) → (j : Int) ≤ (hi : Int) → ∃ u w : Int, f j = .inl (u, w) ∧ LO ≤ u ∧ w ≤ HI := by
  intro j a b
  have q := List.all_eq_true.mp h (j - lo) (List.mem_range.mpr (by omega))
  rw [show lo + (j - lo) = j by omega] at q
  match e : f j, q with
  | .inl b, q =>
    simp only [Bool.and_eq_true, decide_eq_true_eq] at q
    exact ⟨b.1, b.2, rfl, q.1, q.2⟩
theorem rng_st {f : Nat → tv} (lo hi : Nat) {LO HI : Int} (h : ((List.range (hi + 1 - lo)).all fun i => match f (lo + i) with
    | .inl b => decide (b.1 ≤ LO) && decide (HI ≤ b.2)
    | _ => false) = true) : ∀ j : Nat, (lo : Int) ≤ (j : Int) → (j : Int) ≤ (hi : Int) → ∃ u w : Int, f j = .inl (u, w) ∧ u ≤ LO ∧ HI ≤ w := by
  intro j a b
  have q := List.all_eq_true.mp h (j - lo) (List.mem_range.mpr (by omega))
  rw [show lo + (j - lo) = j by omega] at q
  match e : f j, q with
  | .inl b, q =>
    simp only [Bool.and_eq_true, decide_eq_true_eq] at q
    exact ⟨b.1, b.2, rfl, q.1, q.2⟩
