def rst (f : Nat → Int32) (a : Int32) : Prop := (f (15 + 3 * a.toInt.toNat)).toInt = 6 → 1 ≤ (f (15 + 3 * a.toInt.toNat + 2)).toInt
def stp (f : Nat → Int32) (D : Nat → Nat) (k : Nat) : Prop := ((f (15 + 3 * k)).toInt = 9 → 1 ≤ D k ∧ D (k + 1) = D k) ∧ (((f (15 + 3 * k)).toInt = 10 ∨ (f (15 + 3 * k)).toInt = 11) → 2 ≤ D k ∧ D (k + 1) + 1 = D k) ∧ ((f (15 + 3 * k)).toInt ≠ 9 → (f (15 + 3 * k)).toInt ≠ 10 → (f (15 + 3 * k)).toInt ≠ 11 → D k ≤ 25 ∧ D (k + 1) = D k + 1) ∧ ((f (15 + 3 * k)).toInt = 6 → 1 ≤ (f (15 + 3 * k + 2)).toInt)
def pvw (f : Nat → Int32) (lw : Int32) : Prop := ∀ n : Nat, (n : Int) < lw.toInt → ∃ D : Nat → Nat, 0 ≤ (f (5 + n)).toInt ∧ (f (5 + n)).toInt ≤ (f (6 + n)).toInt ∧ (f (6 + n)).toInt ≤ 620 ∧ D (f (5 + n)).toInt.toNat = 0 ∧ ∀ k : Nat, (f (5 + n)).toInt ≤ (k : Int) → (k : Int) < (f (6 + n)).toInt → stp f D k
theorem nar_b (x : Int32) : (0 : Int) ≤ (vp_nar .boolean x).toInt ∧ (vp_nar .boolean x).toInt ≤ 1 := by
  have e : vp_nar .boolean x = x &&& 1 := rfl
  rw [e]
  exact ti_and (k := 1) rfl (by decide) (by decide) (by decide)
