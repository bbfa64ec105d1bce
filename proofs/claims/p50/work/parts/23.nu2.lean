theorem nlt0 {j : Nat} : ¬ j < (0 : Int32).toNatClampNeg := Nat.not_lt_zero j
