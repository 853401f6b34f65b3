theorem ti_nn {x : Int32} (h : 0 ≤ x.toInt) : ¬ x < 0 := fun q => by
  have q1 := c_lt rfl (by decide : (0 : Int32).toInt = 0) q
  omega
theorem cp_le {x n : Int32} {k : Nat} (h1 : 0 ≤ x.toInt) (h2 : 0 ≤ n.toInt) (h : x.toInt + n.toInt ≤ (k : Int)) : x.toNatClampNeg + n.toNatClampNeg ≤ k := by
  have e1 : x.toNatClampNeg = x.toInt.toNat := rfl
  have e2 : n.toNatClampNeg = n.toInt.toNat := rfl
  omega
