theorem bm32 {n : Int} (h1 : -2147483648 ≤ n) (h2 : n ≤ 2147483647) : n.bmod (2 ^ 32) = n := Int.bmod_eq_of_le (by omega) (by omega)
theorem bm64 {n : Int} (h1 : -9223372036854775808 ≤ n) (h2 : n ≤ 9223372036854775807) : n.bmod (2 ^ 64) = n := Int.bmod_eq_of_le (by omega) (by omega)
theorem ti_rng (x : Int32) : (-2147483648 : Int) ≤ x.toInt ∧ x.toInt ≤ 2147483647 := by
  have h1 := x.le_toInt
  have h2 := x.toInt_lt
  omega
theorem tl_rng (x : Int64) : (-9223372036854775808 : Int) ≤ x.toInt ∧ x.toInt ≤ 9223372036854775807 := by
  have h1 := x.le_toInt
  have h2 := x.toInt_lt
  omega
theorem rg_w {x a b lo hi : Int} (h : a ≤ x ∧ x ≤ b) (h1 : lo ≤ a) (h2 : b ≤ hi) : lo ≤ x ∧ x ≤ hi := ⟨Int.le_trans h1 h.1, Int.le_trans h.2 h2⟩
theorem ti_ne {y : Int32} {c d : Int} (h : c ≤ y.toInt ∧ y.toInt ≤ d) (hc : 0 < c) : ¬ y = 0 := fun e => by
  rw [e] at h
  have z : (0 : Int32).toInt = 0 := by decide
  omega
theorem tl_ne {y : Int64} {c d : Int} (h : c ≤ y.toInt ∧ y.toInt ≤ d) (hc : 0 < c) : ¬ y = 0 := fun e => by
  rw [e] at h
  have z : (0 : Int64).toInt = 0 := by decide
  omega
theorem ti_add {x y z : Int32} {a b c d lo hi : Int} (ez : z = x + y) {X Y : Int} (hX : x.toInt = X) (hY : y.toInt = Y) (hx : a ≤ x.toInt ∧ x.toInt ≤ b) (hy : c ≤ y.toInt ∧ y.toInt ≤ d) (h : (decide (-2147483648 ≤ a + c) && decide (b + d ≤ 2147483647) && decide (lo = a + c) && decide (hi = b + d)) = true) : z.toInt = X + Y ∧ (lo ≤ z.toInt ∧ z.toInt ≤ hi) := by
  subst hX; subst hY
  simp only [Bool.and_eq_true, decide_eq_true_eq] at h
  have e : z.toInt = x.toInt + y.toInt := by rw [ez, Int32.toInt_add, bm32 (by omega) (by omega)]
  exact ⟨e, by omega, by omega⟩
theorem ti_sub {x y z : Int32} {a b c d lo hi : Int} (ez : z = x - y) {X Y : Int} (hX : x.toInt = X) (hY : y.toInt = Y) (hx : a ≤ x.toInt ∧ x.toInt ≤ b) (hy : c ≤ y.toInt ∧ y.toInt ≤ d) (h : (decide (-2147483648 ≤ a - d) && decide (b - c ≤ 2147483647) && decide (lo = a - d) && decide (hi = b - c)) = true) : z.toInt = X - Y ∧ (lo ≤ z.toInt ∧ z.toInt ≤ hi) := by
  subst hX; subst hY
  simp only [Bool.and_eq_true, decide_eq_true_eq] at h
  have e : z.toInt = x.toInt - y.toInt := by rw [ez, Int32.toInt_sub, bm32 (by omega) (by omega)]
  exact ⟨e, by omega, by omega⟩
theorem tl_add {x y z : Int64} {a b c d lo hi : Int} (ez : z = x + y) {X Y : Int} (hX : x.toInt = X) (hY : y.toInt = Y) (hx : a ≤ x.toInt ∧ x.toInt ≤ b) (hy : c ≤ y.toInt ∧ y.toInt ≤ d) (h : (decide (-9223372036854775808 ≤ a + c) && decide (b + d ≤ 9223372036854775807) && decide (lo = a + c) && decide (hi = b + d)) = true) : z.toInt = X + Y ∧ (lo ≤ z.toInt ∧ z.toInt ≤ hi) := by
  subst hX; subst hY
  simp only [Bool.and_eq_true, decide_eq_true_eq] at h
  have e : z.toInt = x.toInt + y.toInt := by rw [ez, Int64.toInt_add, bm64 (by omega) (by omega)]
  exact ⟨e, by omega, by omega⟩
theorem tl_sub {x y z : Int64} {a b c d lo hi : Int} (ez : z = x - y) {X Y : Int} (hX : x.toInt = X) (hY : y.toInt = Y) (hx : a ≤ x.toInt ∧ x.toInt ≤ b) (hy : c ≤ y.toInt ∧ y.toInt ≤ d) (h : (decide (-9223372036854775808 ≤ a - d) && decide (b - c ≤ 9223372036854775807) && decide (lo = a - d) && decide (hi = b - c)) = true) : z.toInt = X - Y ∧ (lo ≤ z.toInt ∧ z.toInt ≤ hi) := by
  subst hX; subst hY
  simp only [Bool.and_eq_true, decide_eq_true_eq] at h
  have e : z.toInt = x.toInt - y.toInt := by rw [ez, Int64.toInt_sub, bm64 (by omega) (by omega)]
  exact ⟨e, by omega, by omega⟩
theorem mul_bd {x y a b c d : Int} (hx : a ≤ x ∧ x ≤ b) (hy : c ≤ y ∧ y ≤ d) (ha : 0 ≤ a) (hc : 0 ≤ c) : a * c ≤ x * y ∧ x * y ≤ b * d := ⟨Int.mul_le_mul hx.1 hy.1 hc (by omega), Int.mul_le_mul hx.2 hy.2 (by omega) (by omega)⟩
theorem ti_mul {x y z : Int32} {a b c d lo hi : Int} (ez : z = x * y) {X Y : Int} (hX : x.toInt = X) (hY : y.toInt = Y) (hx : a ≤ x.toInt ∧ x.toInt ≤ b) (hy : c ≤ y.toInt ∧ y.toInt ≤ d) (h : (decide (0 ≤ a) && decide (0 ≤ c) && decide (b * d ≤ 2147483647) && decide (lo = a * c) && decide (hi = b * d)) = true) : z.toInt = X * Y ∧ (lo ≤ z.toInt ∧ z.toInt ≤ hi) := by
  subst hX; subst hY
  simp only [Bool.and_eq_true, decide_eq_true_eq] at h
  obtain ⟨⟨⟨⟨h1, h2⟩, h3⟩, h4⟩, h5⟩ := h
  have q := mul_bd hx hy h1 h2
  have q0 := Int.mul_nonneg h1 h2
  have e : z.toInt = x.toInt * y.toInt := by rw [ez, Int32.toInt_mul, bm32 (by omega) (by omega)]
  exact ⟨e, by omega, by omega⟩
theorem tl_mul {x y z : Int64} {a b c d lo hi : Int} (ez : z = x * y) {X Y : Int} (hX : x.toInt = X) (hY : y.toInt = Y) (hx : a ≤ x.toInt ∧ x.toInt ≤ b) (hy : c ≤ y.toInt ∧ y.toInt ≤ d) (h : (decide (0 ≤ a) && decide (0 ≤ c) && decide (b * d ≤ 9223372036854775807) && decide (lo = a * c) && decide (hi = b * d)) = true) : z.toInt = X * Y ∧ (lo ≤ z.toInt ∧ z.toInt ≤ hi) := by
  subst hX; subst hY
  simp only [Bool.and_eq_true, decide_eq_true_eq] at h
  obtain ⟨⟨⟨⟨h1, h2⟩, h3⟩, h4⟩, h5⟩ := h
  have q := mul_bd hx hy h1 h2
  have q0 := Int.mul_nonneg h1 h2
  have e : z.toInt = x.toInt * y.toInt := by rw [ez, Int64.toInt_mul, bm64 (by omega) (by omega)]
  exact ⟨e, by omega, by omega⟩
theorem div_bd {x y a b c d hi : Int} (hx : a ≤ x ∧ x ≤ b) (hy : c ≤ y ∧ y ≤ d) (ha : 0 ≤ a) (hc : 1 ≤ c) (hh : hi = b / c) : 0 ≤ x / y ∧ x / y ≤ hi := by
  refine ⟨Int.ediv_nonneg (by omega) (by omega), ?_⟩
  have h1 : x / y ≤ b / y := Int.ediv_le_ediv (by omega) hx.2
  have h2 : b / y ≤ b / c := by
    apply (Int.le_ediv_iff_mul_le (by omega : (0 : Int) < c)).mpr
    have h3 : b / y * c ≤ b / y * y := Int.mul_le_mul_of_nonneg_left hy.1 (Int.ediv_nonneg (by omega) (by omega))
    have h4 := Int.ediv_mul_le b (show y ≠ 0 by omega)
    omega
  omega
theorem ti_div {x y z : Int32} {a b c d hi : Int} (ez : z = x / y) {X Y : Int} (hX : x.toInt = X) (hY : y.toInt = Y) (hx : a ≤ x.toInt ∧ x.toInt ≤ b) (hy : c ≤ y.toInt ∧ y.toInt ≤ d) (h : (decide (0 ≤ a) && decide (1 ≤ c) && decide (hi = b / c)) = true) : z.toInt = X / Y ∧ (0 ≤ z.toInt ∧ z.toInt ≤ hi) := by
  subst hX; subst hY
  simp only [Bool.and_eq_true, decide_eq_true_eq] at h
  obtain ⟨⟨h1, h2⟩, h3⟩ := h
  have q := div_bd hx hy h1 h2 h3
  have q2 := div_bd (hi := x.toInt) (b := x.toInt) (c := 1) (d := y.toInt) ⟨hx.1, Int.le_refl _⟩ ⟨by omega, Int.le_refl _⟩ h1 (by omega) (by omega)
  have q3 := ti_rng x
  have e : z.toInt = x.toInt / y.toInt := by rw [ez, Int32.toInt_div, Int.tdiv_eq_ediv_of_nonneg (by omega), bm32 (by omega) (by omega)]
  exact ⟨e, by omega, by omega⟩
theorem tl_div {x y z : Int64} {a b c d hi : Int} (ez : z = x / y) {X Y : Int} (hX : x.toInt = X) (hY : y.toInt = Y) (hx : a ≤ x.toInt ∧ x.toInt ≤ b) (hy : c ≤ y.toInt ∧ y.toInt ≤ d) (h : (decide (0 ≤ a) && decide (1 ≤ c) && decide (hi = b / c)) = true) : z.toInt = X / Y ∧ (0 ≤ z.toInt ∧ z.toInt ≤ hi) := by
  subst hX; subst hY
  simp only [Bool.and_eq_true, decide_eq_true_eq] at h
  obtain ⟨⟨h1, h2⟩, h3⟩ := h
  have q := div_bd hx hy h1 h2 h3
  have q2 := div_bd (hi := x.toInt) (b := x.toInt) (c := 1) (d := y.toInt) ⟨hx.1, Int.le_refl _⟩ ⟨by omega, Int.le_refl _⟩ h1 (by omega) (by omega)
  have q3 := tl_rng x
  have e : z.toInt = x.toInt / y.toInt := by rw [ez, Int64.toInt_div, Int.tdiv_eq_ediv_of_nonneg (by omega), bm64 (by omega) (by omega)]
  exact ⟨e, by omega, by omega⟩
theorem rem_bd {x y a b c d hi : Int} (hx : a ≤ x ∧ x ≤ b) (hy : c ≤ y ∧ y ≤ d) (ha : 0 ≤ a) (hc : 1 ≤ c) (hh : hi = min (d - 1) b) : x % y < y ∧ (0 ≤ x % y ∧ x % y ≤ hi) := by
  have h1 := Int.emod_nonneg x (show y ≠ 0 by omega)
  have h2 := Int.emod_lt_of_pos x (show 0 < y by omega)
  have h3 : x % y ≤ x := by
    rw [Int.emod_def]
    have h4 := Int.mul_nonneg (show 0 ≤ y by omega) (Int.ediv_nonneg (show 0 ≤ x by omega) (show 0 ≤ y by omega))
    omega
  omega
theorem ti_rem {x y z : Int32} {a b c d hi : Int} (ez : z = x - x / y * y) {X Y : Int} (hX : x.toInt = X) (hY : y.toInt = Y) (hx : a ≤ x.toInt ∧ x.toInt ≤ b) (hy : c ≤ y.toInt ∧ y.toInt ≤ d) (h : (decide (0 ≤ a) && decide (1 ≤ c) && decide (hi = min (d - 1) b)) = true) : (z.toInt = X % Y ∧ z.toInt < Y) ∧ (0 ≤ z.toInt ∧ z.toInt ≤ hi) := by
  subst hX; subst hY
  simp only [Bool.and_eq_true, decide_eq_true_eq] at h
  obtain ⟨⟨h1, h2⟩, h3⟩ := h
  have q := rem_bd hx hy h1 h2 h3
  have q3 := ti_rng x
  have e : z.toInt = x.toInt % y.toInt := by
    have e1 : (x / y).toInt = x.toInt / y.toInt := (ti_div (z := x / y) (hi := b / c) rfl rfl rfl hx hy (by simp only [Bool.and_eq_true, decide_eq_true_eq]; exact ⟨⟨h1, h2⟩, trivial⟩)).1
    have e2 := Int.ediv_mul_le x.toInt (show y.toInt ≠ 0 by omega)
    have e3 : 0 ≤ x.toInt / y.toInt * y.toInt := Int.mul_nonneg (Int.ediv_nonneg (by omega) (by omega)) (by omega)
    rw [ez, Int32.toInt_sub, Int32.toInt_mul, e1, bm32 (n := x.toInt / y.toInt * y.toInt) (by omega) (by omega), bm32 (by omega) (by omega), Int.emod_def, Int.mul_comm y.toInt]
  exact ⟨⟨e, by omega⟩, by omega, by omega⟩
theorem tl_rem {x y z : Int64} {a b c d hi : Int} (ez : z = x - x / y * y) {X Y : Int} (hX : x.toInt = X) (hY : y.toInt = Y) (hx : a ≤ x.toInt ∧ x.toInt ≤ b) (hy : c ≤ y.toInt ∧ y.toInt ≤ d) (h : (decide (0 ≤ a) && decide (1 ≤ c) && decide (hi = min (d - 1) b)) = true) : (z.toInt = X % Y ∧ z.toInt < Y) ∧ (0 ≤ z.toInt ∧ z.toInt ≤ hi) := by
  subst hX; subst hY
  simp only [Bool.and_eq_true, decide_eq_true_eq] at h
  obtain ⟨⟨h1, h2⟩, h3⟩ := h
  have q := rem_bd hx hy h1 h2 h3
  have q3 := tl_rng x
  have e : z.toInt = x.toInt % y.toInt := by
    have e1 : (x / y).toInt = x.toInt / y.toInt := (tl_div (z := x / y) (hi := b / c) rfl rfl rfl hx hy (by simp only [Bool.and_eq_true, decide_eq_true_eq]; exact ⟨⟨h1, h2⟩, trivial⟩)).1
    have e2 := Int.ediv_mul_le x.toInt (show y.toInt ≠ 0 by omega)
    have e3 : 0 ≤ x.toInt / y.toInt * y.toInt := Int.mul_nonneg (Int.ediv_nonneg (by omega) (by omega)) (by omega)
    rw [ez, Int64.toInt_sub, Int64.toInt_mul, e1, bm64 (n := x.toInt / y.toInt * y.toInt) (by omega) (by omega), bm64 (by omega) (by omega), Int.emod_def, Int.mul_comm y.toInt]
  exact ⟨⟨e, by omega⟩, by omega, by omega⟩
theorem ti_and {x m z : Int32} {lo hi : Int} {k : Nat} (ez : z = x &&& m) (hm : m.toBitVec.toNat = 2 ^ k - 1) (hk : 2 ^ k ≤ 2 ^ 31) (hh : (decide (lo ≤ 0) && decide ((2 ^ k : Nat) - 1 ≤ hi)) = true) : lo ≤ z.toInt ∧ z.toInt ≤ hi := by
  simp only [Bool.and_eq_true, decide_eq_true_eq] at hh
  obtain ⟨j, hj, e⟩ := pk_andE x k hm
  rw [ez, e, nI_toInt (by omega)]
  omega
theorem ti_and' {x m z : Int32} {lo hi : Int} {k : Nat} (ez : z = m &&& x) (hm : m.toBitVec.toNat = 2 ^ k - 1) (hk : 2 ^ k ≤ 2 ^ 31) (hh : (decide (lo ≤ 0) && decide ((2 ^ k : Nat) - 1 ≤ hi)) = true) : lo ≤ z.toInt ∧ z.toInt ≤ hi := ti_and (ez.trans (Int32.and_comm _ _)) hm hk hh
theorem ti_i2l {x : Int32} {z : Int64} {a b : Int} (ez : z = x.toInt64) (hx : a ≤ x.toInt ∧ x.toInt ≤ b) : z.toInt = x.toInt ∧ (a ≤ z.toInt ∧ z.toInt ≤ b) := by
  have e : z.toInt = x.toInt := by rw [ez, Int32.toInt_toInt64]
  exact ⟨e, by omega, by omega⟩
theorem ti_l2i {x : Int64} {z : Int32} {a b : Int} (ez : z = x.toInt32) (hx : a ≤ x.toInt ∧ x.toInt ≤ b) (h : (decide (-2147483648 ≤ a) && decide (b ≤ 2147483647)) = true) : z.toInt = x.toInt ∧ (a ≤ z.toInt ∧ z.toInt ≤ b) := by
  simp only [Bool.and_eq_true, decide_eq_true_eq] at h
  have e : z.toInt = x.toInt := by rw [ez, Int64.toInt_toInt32, bm32 (by omega) (by omega)]
  exact ⟨e, by omega, by omega⟩
theorem ti_len {z : Int32} {n : Nat} {hi : Int} (ez : z = Int32.ofNat n) (h : (n : Int) ≤ hi) (h2 : hi ≤ 2147483647) : z.toInt = (n : Int) ∧ (0 ≤ z.toInt ∧ z.toInt ≤ hi) := by
  have e : z.toInt = (n : Int) := by rw [ez, Int32.toInt_ofNat_of_lt (by omega)]
  exact ⟨e, by omega, by omega⟩
theorem c_lt {x y : Int32} {a b : Int} (hx : x.toInt = a) (hy : y.toInt = b) (h : x < y) : a < b := by rw [← hx, ← hy]; exact Int32.lt_iff_toInt_lt.mp h
theorem c_le {x y : Int32} {a b : Int} (hx : x.toInt = a) (hy : y.toInt = b) (h : x ≤ y) : a ≤ b := by rw [← hx, ← hy]; exact Int32.le_iff_toInt_le.mp h
theorem c_gt {x y : Int32} {a b : Int} (hx : x.toInt = a) (hy : y.toInt = b) (h : y < x) : b < a := c_lt hy hx h
theorem c_ge {x y : Int32} {a b : Int} (hx : x.toInt = a) (hy : y.toInt = b) (h : y ≤ x) : b ≤ a := c_le hy hx h
theorem c_eq {x y : Int32} {a b : Int} (hx : x.toInt = a) (hy : y.toInt = b) (h : x = y) : a = b := by rw [← hx, ← hy, h]
theorem c_ne {x y : Int32} {a b : Int} (hx : x.toInt = a) (hy : y.toInt = b) (h : ¬ x = y) : a ≠ b := by rw [← hx, ← hy]; exact fun e => h (Int32.toInt_inj.mp e)
theorem c_nlt {x y : Int32} {a b : Int} (hx : x.toInt = a) (hy : y.toInt = b) (h : ¬ x < y) : b ≤ a := by rw [← hx, ← hy]; exact Int.not_lt.mp (fun q => h (Int32.lt_iff_toInt_lt.mpr q))
theorem c_nle {x y : Int32} {a b : Int} (hx : x.toInt = a) (hy : y.toInt = b) (h : ¬ x ≤ y) : b < a := by rw [← hx, ← hy]; exact Int.not_le.mp (fun q => h (Int32.le_iff_toInt_le.mpr q))
theorem c_ngt {x y : Int32} {a b : Int} (hx : x.toInt = a) (hy : y.toInt = b) (h : ¬ y < x) : a ≤ b := c_nlt hy hx h
theorem c_nge {x y : Int32} {a b : Int} (hx : x.toInt = a) (hy : y.toInt = b) (h : ¬ y ≤ x) : a < b := c_nle hy hx h
theorem lg_cases (x y : Int64) : (y.toInt < x.toInt ∧ lg_cmp x y = 1) ∨ (x.toInt = y.toInt ∧ lg_cmp x y = 0) ∨ (x.toInt < y.toInt ∧ lg_cmp x y = -1) := by
  unfold lg_cmp
  by_cases h : x > y
  · exact Or.inl ⟨Int64.lt_iff_toInt_lt.mp h, if_pos h⟩
  · have h1 : ¬ y.toInt < x.toInt := fun q => h (Int64.lt_iff_toInt_lt.mpr q)
    by_cases e : x = y
    · exact Or.inr (Or.inl ⟨congrArg _ e, by rw [if_neg h, if_pos e]⟩)
    · have h2 : x.toInt ≠ y.toInt := fun q => e (Int64.toInt_inj.mp q)
      exact Or.inr (Or.inr ⟨by omega, by rw [if_neg h, if_neg e]⟩)
theorem g_lt {x y : Int64} {a b : Int} (hx : x.toInt = a) (hy : y.toInt = b) (h : lg_cmp x y < 0) : a < b := by
  rw [← hx, ← hy]; rcases lg_cases x y with q | q | q <;> first | (rw [q.2] at h; exact absurd h (by decide)) | exact q.1
theorem g_eq {x y : Int64} {a b : Int} (hx : x.toInt = a) (hy : y.toInt = b) (h : lg_cmp x y = 0) : a = b := by
  rw [← hx, ← hy]; rcases lg_cases x y with q | q | q <;> first | (rw [q.2] at h; exact absurd h (by decide)) | exact q.1
theorem g_gt {x y : Int64} {a b : Int} (hx : x.toInt = a) (hy : y.toInt = b) (h : 0 < lg_cmp x y) : b < a := by
  rw [← hx, ← hy]; rcases lg_cases x y with q | q | q <;> first | (rw [q.2] at h; exact absurd h (by decide)) | exact q.1
theorem g_le {x y : Int64} {a b : Int} (hx : x.toInt = a) (hy : y.toInt = b) (h : lg_cmp x y ≤ 0) : a ≤ b := by
  rw [← hx, ← hy]; rcases lg_cases x y with q | q | q <;> first | (rw [q.2] at h; exact absurd h (by decide)) | (have := q.1; omega)
theorem g_ge {x y : Int64} {a b : Int} (hx : x.toInt = a) (hy : y.toInt = b) (h : 0 ≤ lg_cmp x y) : b ≤ a := by
  rw [← hx, ← hy]; rcases lg_cases x y with q | q | q <;> first | (rw [q.2] at h; exact absurd h (by decide)) | (have := q.1; omega)
theorem g_ne {x y : Int64} {a b : Int} (hx : x.toInt = a) (hy : y.toInt = b) (h : ¬ lg_cmp x y = 0) : a ≠ b := by
  rw [← hx, ← hy]; rcases lg_cases x y with q | q | q <;> first | exact absurd q.2 h | (have := q.1; omega)
theorem g_nlt {x y : Int64} {a b : Int} (hx : x.toInt = a) (hy : y.toInt = b) (h : ¬ lg_cmp x y < 0) : b ≤ a := by
  rw [← hx, ← hy]; rcases lg_cases x y with q | q | q <;> first | (rw [q.2] at h; exact absurd (by decide) h) | (have := q.1; omega)
theorem g_nge {x y : Int64} {a b : Int} (hx : x.toInt = a) (hy : y.toInt = b) (h : ¬ 0 ≤ lg_cmp x y) : a < b := by
  rw [← hx, ← hy]; rcases lg_cases x y with q | q | q <;> first | (rw [q.2] at h; exact absurd (by decide) h) | (have := q.1; omega)
theorem g_ngt {x y : Int64} {a b : Int} (hx : x.toInt = a) (hy : y.toInt = b) (h : ¬ 0 < lg_cmp x y) : a ≤ b := by
  rw [← hx, ← hy]; rcases lg_cases x y with q | q | q <;> first | (rw [q.2] at h; exact absurd (by decide) h) | (have := q.1; omega)
theorem g_nle {x y : Int64} {a b : Int} (hx : x.toInt = a) (hy : y.toInt = b) (h : ¬ lg_cmp x y ≤ 0) : b < a := by
  rw [← hx, ← hy]; rcases lg_cases x y with q | q | q <;> first | (rw [q.2] at h; exact absurd (by decide) h) | (have := q.1; omega)
theorem r_lt1 {x y a b c d e : Int} (bx : a ≤ x ∧ x ≤ b) (cy : c ≤ y ∧ y ≤ d) (h : x < y) (he : d - 1 ≤ e) : a ≤ x ∧ x ≤ e := ⟨bx.1, by omega⟩
theorem r_lt2 {x y a b c d e : Int} (bx : a ≤ x ∧ x ≤ b) (cy : c ≤ y ∧ y ≤ d) (h : x < y) (he : e ≤ a + 1) : e ≤ y ∧ y ≤ d := ⟨by omega, cy.2⟩
theorem r_le1 {x y a b c d e : Int} (bx : a ≤ x ∧ x ≤ b) (cy : c ≤ y ∧ y ≤ d) (h : x ≤ y) (he : d ≤ e) : a ≤ x ∧ x ≤ e := ⟨bx.1, by omega⟩
theorem r_le2 {x y a b c d e : Int} (bx : a ≤ x ∧ x ≤ b) (cy : c ≤ y ∧ y ≤ d) (h : x ≤ y) (he : e ≤ a) : e ≤ y ∧ y ≤ d := ⟨by omega, cy.2⟩
theorem r_eq1 {x y a b c d e f : Int} (bx : a ≤ x ∧ x ≤ b) (cy : c ≤ y ∧ y ≤ d) (h : x = y) (he : (e ≤ a ∨ e ≤ c) ∧ (b ≤ f ∨ d ≤ f)) : e ≤ x ∧ x ≤ f := ⟨by omega, by omega⟩
theorem r_eq2 {x y a b c d e f : Int} (bx : a ≤ x ∧ x ≤ b) (cy : c ≤ y ∧ y ≤ d) (h : x = y) (he : (e ≤ a ∨ e ≤ c) ∧ (b ≤ f ∨ d ≤ f)) : e ≤ y ∧ y ≤ f := ⟨by omega, by omega⟩
theorem r_ne1 {x y a b c d e : Int} (bx : a ≤ x ∧ x ≤ b) (cy : c ≤ y ∧ y ≤ d) (h : x ≠ y) (he : d = c ∧ c = a ∧ e ≤ a + 1) : e ≤ x ∧ x ≤ b := ⟨by omega, bx.2⟩
theorem r_ne2 {x y a b c d e : Int} (bx : a ≤ x ∧ x ≤ b) (cy : c ≤ y ∧ y ≤ d) (h : x ≠ y) (he : d = c ∧ c = b ∧ b - 1 ≤ e) : a ≤ x ∧ x ≤ e := ⟨bx.1, by omega⟩
theorem vp_in_b {x : Int32} {n : Nat} {lo hi : Int} (h : lo ≤ x.toInt ∧ x.toInt ≤ hi) (h1 : 0 ≤ lo) (h2 : hi < n) : vp_in x n := vp_in_iff.mpr ⟨by omega, by omega⟩
def rg (f : Nat → Int32) (n : Nat) (lo hi : Int) : Prop := ∀ j, j < n → lo ≤ (f j).toInt ∧ (f j).toInt ≤ hi
theorem rg_at {f : Nat → Int32} {n : Nat} {lo hi : Int} {i z : Int32} (h : rg f n lo hi) (hin : vp_in i n) (ez : z = f i.toNatClampNeg) : lo ≤ z.toInt ∧ z.toInt ≤ hi := by
  rw [ez]; exact h _ (Nat.not_le.mp fun q => hin (Or.inr q))
theorem rg_upd {f : Nat → Int32} {n k : Nat} {lo hi : Int} {x : Int32} (h : rg f n lo hi) (hx : lo ≤ x.toInt ∧ x.toInt ≤ hi) : rg (upd f k x) n lo hi := fun j hj => by
  by_cases e : j = k
  · rw [e, pk_us]; exact hx
  · rw [pk_un e]; exact h j hj
theorem zn_b {v : Int32} (h : (0 : Int) ≤ v.toInt ∧ v.toInt ≤ 1) : narrow .boolean (.int v) = .int v := by
  have h2 : v = 0 ∨ v = 1 := by
    rcases (show v.toInt = 0 ∨ v.toInt = 1 by omega) with e | e
    · exact Or.inl (Int32.toInt_inj.mp (e.trans (by decide)))
    · exact Or.inr (Int32.toInt_inj.mp (e.trans (by decide)))
  rcases h2 with rfl | rfl <;> rfl
theorem tl_ush56 {x z : Int64} (ez : z = ((x : Int64).toUInt64 >>> ((56 : Int32).toInt64.toUInt64 &&& Int64.toUInt64 63)).toInt64) : (0 : Int) ≤ z.toInt ∧ z.toInt ≤ 255 := by
  have e : z.toBitVec = x.toBitVec >>> 56 := by
    rw [ez]
    exact UInt64.toBitVec_shiftRight _ _
  have e2 : z.toBitVec.toNat = x.toBitVec.toNat / 2 ^ 56 := by rw [e, BitVec.toNat_ushiftRight, Nat.shiftRight_eq_div_pow]
  have h1 : x.toBitVec.toNat < 2 ^ 64 := x.toBitVec.isLt
  have h2 : z.toBitVec.toNat ≤ 255 := by omega
  have h3 : z.toInt = (z.toBitVec.toNat : Int) := by
    show z.toBitVec.toInt = _
    rw [BitVec.toInt_eq_toNat_cond, if_pos (by omega)]
  omega
theorem sq_bd {x h k : Int} (h0 : 0 ≤ x) (h1 : x * x ≤ h) (h2 : 0 ≤ k + 1 ∧ h < (k + 1) * (k + 1)) : x ≤ k := Int.not_lt.mp (fun q => by
  have q2 : (k + 1) * (k + 1) ≤ x * x := Int.mul_le_mul (by omega) (by omega) h2.1 h0
  omega)
theorem ti_max {x y z : Int32} {X Y : Int} (ez : z = if x < y then y else x) (hX : x.toInt = X) (hY : y.toInt = Y) : X ≤ z.toInt ∧ Y ≤ z.toInt ∧ (z.toInt = X ∨ z.toInt = Y) := by
  subst hX; subst hY
  by_cases h : x < y
  · rw [if_pos h] at ez
    have q := c_lt rfl rfl h
    rw [ez]; omega
  · rw [if_neg h] at ez
    have q := c_nlt rfl rfl h
    rw [ez]; omega
theorem ti_min {x y z : Int32} {X Y : Int} (ez : z = if y < x then y else x) (hX : x.toInt = X) (hY : y.toInt = Y) : z.toInt ≤ X ∧ z.toInt ≤ Y ∧ (z.toInt = X ∨ z.toInt = Y) := by
  subst hX; subst hY
  by_cases h : y < x
  · rw [if_pos h] at ez
    have q := c_lt rfl rfl h
    rw [ez]; omega
  · rw [if_neg h] at ez
    have q := c_nlt rfl rfl h
    rw [ez]; omega
section CUT
variable {p : Program} {l : Launch} {e : Env} {R : Room} {s : State} {m : MethodId} {args : Array Value} {below : List Frame} {meth : Method} {c : Code} {cells slots : Nat} {Q : State → Prop}
theorem cutW {H0 : Heap} {locs0 : List Loc} {σ : Type} {pc2 cells2 slots2 : Nat} {st2 : σ → List Value} {g : JFrame} (I : σ → Heap → List Loc → Array Slot → Prop) (k : ∀ v H locs ls, I v H locs ls → W p l e R s m args below meth c H locs cells2 slots2 Q (F0 m pc2 ls (st2 v))) (go : (∀ v H locs ls, I v H locs ls → W p l e R s m args below meth c H locs cells2 slots2 Q (F0 m pc2 ls (st2 v))) → W p l e R s m args below meth c H0 locs0 cells slots Q g) : W p l e R s m args below meth c H0 locs0 cells slots Q g := go k
theorem cutP {H0 : Heap} {locs0 : List Loc} {σ : Type} {pc2 cells2 slots2 : Nat} {st2 : σ → List Value} {g : JFrame} (I : σ → Array Slot → Prop) (k : ∀ v ls, I v ls → W p l e R s m args below meth c H0 locs0 cells2 slots2 Q (F0 m pc2 ls (st2 v))) (go : (∀ v ls, I v ls → W p l e R s m args below meth c H0 locs0 cells2 slots2 Q (F0 m pc2 ls (st2 v))) → W p l e R s m args below meth c H0 locs0 cells slots Q g) : W p l e R s m args below meth c H0 locs0 cells slots Q g := go k
theorem loopW {pc : Nat} {st : List Value} {σ : Type} (mu : σ → Nat) (I : σ → Heap → List Loc → Array Slot → Prop) (hs : ∀ v H locs ls, I v H locs ls → (∀ v' H' locs' ls', I v' H' locs' ls' → mu v' < mu v → W p l e R s m args below meth c H' locs' cells slots Q (F0 m pc ls' st)) → W p l e R s m args below meth c H locs cells slots Q (F0 m pc ls st)) (v : σ) {H : Heap} {locs : List Loc} {ls : Array Slot} (h : I v H locs ls) : W p l e R s m args below meth c H locs cells slots Q (F0 m pc ls st) := by
  have key : ∀ n v H locs ls, mu v < n → I v H locs ls → W p l e R s m args below meth c H locs cells slots Q (F0 m pc ls st) := by
    intro n
    induction n with
    | zero => intro v H locs ls h; exact absurd h (Nat.not_lt_zero _)
    | succ n ih => intro v H locs ls h hI; exact hs v H locs ls hI (fun v' H' locs' ls' hI' h' => ih v' H' locs' ls' (by omega) hI')
  exact key (mu v + 1) v _ _ _ (Nat.lt_succ_self _) h
theorem loopP {H : Heap} {locs : List Loc} {pc : Nat} {st : List Value} {σ : Type} (mu : σ → Nat) (I : σ → Array Slot → Prop) (hs : ∀ v ls, I v ls → (∀ v' ls', I v' ls' → mu v' < mu v → W p l e R s m args below meth c H locs cells slots Q (F0 m pc ls' st)) → W p l e R s m args below meth c H locs cells slots Q (F0 m pc ls st)) (v : σ) {ls : Array Slot} (h : I v ls) : W p l e R s m args below meth c H locs cells slots Q (F0 m pc ls st) := by
  have key : ∀ n v ls, mu v < n → I v ls → W p l e R s m args below meth c H locs cells slots Q (F0 m pc ls st) := by
    intro n
    induction n with
    | zero => intro v ls h; exact absurd h (Nat.not_lt_zero _)
    | succ n ih => intro v ls h hI; exact hs v ls hI (fun v' ls' hI' h' => ih v' ls' (by omega) hI')
  exact key (mu v + 1) v _ (Nat.lt_succ_self _) h
end CUT
