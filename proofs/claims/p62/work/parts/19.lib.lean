theorem ti_z {x : Int32} (h : (0 : Int) ≤ x.toInt ∧ x.toInt ≤ 0) : x = 0 := Int32.toInt_inj.mp ((show x.toInt = 0 by omega).trans (by decide))
