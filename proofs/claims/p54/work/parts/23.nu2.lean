theorem nlt0 {j : Nat} : ¬ j < (0 : Int32).toNatClampNeg := Nat.not_lt_zero j
theorem nut6 {ν : Nat → Nat} (j : Nat) : νt ν (6 + j) = ν (6 + j) := by
  show (if 6 + j = 3 then 178 else if 6 + j = 5 then 1 else ν (6 + j)) = ν (6 + j)
  rw [if_neg (by omega), if_neg (by omega)]
section XR
variable {p : Program} {l : Launch} {e : Env} {R : Room} {s : State} {m : MethodId} {args : Array Value} {below : List Frame} {meth : Method} {c : Code} {H : Heap} {locs : List Loc} {cells slots : Nat} {Q : State → Prop}
variable {cc : ByteArray} {pc : Nat} {ls : Array Slot} {rest : List Value} {a : Nat} {H0 : Heap} {A : Nat → Prop}
theorem xastR (hexec : p.tables.exec = Jvm.exec) (hb : c.code = cc) {cA : ClassId} {n : Nat} {g : Nat → Value} (hA : ArrOfT s cA .int) (h2 : H[a]? = some (arrV cA n g)) (hS0 : va_S A H0 H locs) (hAa : A a) {i x : Int32} {b d : Int} (hix : iv i b d) (hn : (decide (0 ≤ b) && decide (d < (n : Int))) = true) (hdg : decode cc pc = .ok (.iastore, 1))
    (kk : ∀ (H1 : Heap) (locs1 : List Loc), H1[a]? = some (arrV cA n (updV g i.toNatClampNeg (.int x))) → va_S A H0 H1 locs1 → (∀ q : Nat, q ≠ a → H1[q]? = H[q]?) → W p l e R s m args below meth c H1 locs1 cells slots Q (F0 m (pc + 1) ls rest)) : W p l e R s m args below meth c H locs cells slots Q (F0 m pc ls (.int x :: .int i :: .ref a :: rest)) := by
  refine W.iast hexec hb h2 (hA n g) (fun q => by cases q) (by rw [arrV_size]; exact iv_in hix hn) rfl rfl hdg fun H1 e z oq => ?_
  exact kk H1 _ (by rw [e, arrV_store]) (hS0.put z oq hAa) oq
end XR
theorem ms_jx {n n' c c' : Int32} {N : Nat} (h : (13 - n.toInt + c.toInt).toNat < N + 1) (hn : (n'.toInt = n.toInt + 1 ∧ c'.toInt ≤ 1) ∨ (n'.toInt = n.toInt ∧ c'.toInt ≤ 0)) (hc : 1 ≤ c.toInt) (h13 : n.toInt ≤ 13) : (13 - n'.toInt + c'.toInt).toNat < N := by omega
theorem frs_st {ν : Nat → Nat} (lo hi : Nat) {LO HI : Int} (hh : hi < 96) (h : ((List.range (hi + 1 - lo)).all fun i => match wfg (lo + i) with
    | .inl b => decide (b.1 ≤ LO) && decide (HI ≤ b.2)
    | _ => false) = true) : ∀ j : Nat, (lo : Int) ≤ (j : Int) → (j : Int) ≤ (hi : Int) → ∃ u w : Int, (if 96 ≤ j ∧ j < 160 ∧ 96 + ν 4 ≤ j then (.inl (-2147483648, 2147483647) : tv) else wfg j) = .inl (u, w) ∧ u ≤ LO ∧ HI ≤ w := by
  intro j a b
  rw [if_neg (by omega)]
  exact rng_st lo hi h j a b
