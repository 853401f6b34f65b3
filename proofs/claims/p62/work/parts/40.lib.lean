theorem wk_to {t u b x f : Nat} (hu : 1 ≤ u) (ht : t < u * b * x) (hf : f < b) : t / u % b * u ≤ t ∧ t - t / u % b * u + f * u < u * b * x := by
  have e1 : u * (t / u) + t % u = t := Nat.div_add_mod t u
  have e2 : b * (t / u / b) + t / u % b = t / u := Nat.div_add_mod (t / u) b
  have h1 : t % u < u := Nat.mod_lt _ hu
  have h2 : t / u / b < x := by
    rw [Nat.div_div_eq_div_mul]
    exact Nat.div_lt_of_lt_mul ht
  generalize t / u / b = c at e2 h2
  generalize t / u % b = d at e2 ⊢
  generalize t / u = q at e1 e2
  generalize t % u = r at e1 h1
  subst e2
  subst e1
  have e3 : u * (b * c + d) = u * b * c + d * u := by rw [Nat.mul_add, Nat.mul_assoc, Nat.mul_comm u d]
  rw [e3]
  have h3 : u * b * (c + 1) ≤ u * b * x := Nat.mul_le_mul_left _ h2
  have h4 : u * b * (c + 1) = u * b * c + u * b := Nat.mul_succ _ _
  have h5 : f * u + u ≤ b * u := by
    have h6 : (f + 1) * u ≤ b * u := Nat.mul_le_mul_right _ hf
    rw [Nat.succ_mul] at h6; exact h6
  have h7 : b * u = u * b := Nat.mul_comm _ _
  omega
theorem pw_split {b p n : Nat} (h : p < n) : b ^ p * b * b ^ (n - 1 - p) = b ^ n := by
  rw [← Nat.pow_succ, ← Nat.pow_add]
  congr 1
  omega
def cnt (f : Nat → Int32) : Nat → Nat
  | 0 => 0
  | n + 1 => cnt f n + (if f n = -1 then 1 else 0)
theorem cnt_le (f : Nat → Int32) : ∀ n, cnt f n ≤ n
  | 0 => Nat.le_refl 0
  | n + 1 => by
    have h := cnt_le f n
    show cnt f n + _ ≤ n + 1
    by_cases e : f n = -1
    · rw [if_pos e]; omega
    · rw [if_neg e]; omega
theorem cnt_out {f : Nat → Int32} {j : Nat} {v : Int32} : ∀ n, n ≤ j → cnt (upd f j v) n = cnt f n
  | 0, _ => rfl
  | n + 1, h => by
    show cnt (upd f j v) n + _ = cnt f n + _
    rw [cnt_out n (by omega), pk_un (by omega)]
theorem cnt_upd {f : Nat → Int32} {j : Nat} {v : Int32} (hj : f j = -1) (hv : v ≠ -1) : ∀ n, j < n → cnt (upd f j v) n + 1 = cnt f n
  | 0, h => absurd h (Nat.not_lt_zero _)
  | n + 1, h => by
    show cnt (upd f j v) n + _ + 1 = cnt f n + _
    by_cases e : j = n
    · subst e
      rw [cnt_out j (Nat.le_refl j), pk_us, if_neg hv, if_pos hj]
    · have q := cnt_upd hj hv n (by omega)
      rw [pk_un (by omega)]
      omega
def wkI (fa qu : Nat → Int32) (M E : Nat) : Prop := (∀ k, k < E → 0 ≤ (qu k).toInt ∧ (qu k).toInt.toNat < M ∧ 0 ≤ (fa (qu k).toInt.toNat).toInt ∧ (fa (qu k).toInt.toNat).toInt ≤ (E : Int)) ∧ cnt fa M + E ≤ M
theorem wkI_push {fa qu : Nat → Int32} {M E : Nat} {x v : Int32} (h : wkI fa qu M E) (hx0 : 0 ≤ x.toInt) (hx : x.toInt.toNat < M) (hf : fa x.toInt.toNat = -1) (hv0 : 0 ≤ v.toInt) (hv : v.toInt ≤ (E : Int) + 1) : wkI (upd fa x.toInt.toNat v) (upd qu E x) M (E + 1) := by
  have hvn : v ≠ -1 := fun e => by
    have q : (-1 : Int32).toInt = -1 := by decide
    rw [e, q] at hv0; omega
  refine ⟨fun k hk => ?_, by have q := cnt_upd hf hvn M hx; have q2 := h.2; omega⟩
  by_cases e : k = E
  · subst e
    rw [pk_us, pk_us]
    exact ⟨hx0, hx, hv0, by omega⟩
  · obtain ⟨h1, h2, h3, h4⟩ := h.1 k (by omega)
    rw [pk_un e]
    have hne : (qu k).toInt.toNat ≠ x.toInt.toNat := fun q => by
      rw [q, hf] at h3
      have q1 : (-1 : Int32).toInt = -1 := by decide
      rw [q1] at h3; omega
    rw [pk_un hne]
    exact ⟨h1, h2, h3, by omega⟩
theorem wkI_start {fa qu : Nat → Int32} {M : Nat} {x : Int32} (hx0 : 0 ≤ x.toInt) (hx : x.toInt.toNat < M) (hf : fa x.toInt.toNat = -1) : wkI (upd fa x.toInt.toNat 0) (upd qu 0 x) M 1 :=
  wkI_push (E := 0) ⟨fun k hk => absurd hk (Nat.not_lt_zero _), by have q := cnt_le fa M; omega⟩ hx0 hx hf (by decide) (by decide)
theorem cnt_pos {f : Nat → Int32} {j : Nat} (hj : f j = -1) : ∀ n, j < n → 1 ≤ cnt f n
  | 0, h => absurd h (Nat.not_lt_zero _)
  | n + 1, h => by
    show 1 ≤ cnt f n + _
    by_cases e : j = n
    · subst e; rw [if_pos hj]; omega
    · have q := cnt_pos hj n (by omega); omega
theorem wkI_lt {fa qu : Nat → Int32} {M : Nat} {en x : Int32} (h : wkI fa qu M en.toInt.toNat) (hx : x.toInt.toNat < M) (hf : fa x.toNatClampNeg = -1) : en.toInt.toNat < M := by
  have q := cnt_pos (j := x.toInt.toNat) hf M hx
  have q2 := h.2
  omega
def TF (fa : Nat → Int32) (M : Nat) (en t : Int32) : Prop := 0 ≤ t.toInt ∧ t.toInt.toNat < M ∧ 0 ≤ (fa t.toInt.toNat).toInt ∧ (fa t.toInt.toNat).toInt ≤ en.toInt
theorem TF.of {fa qu : Nat → Int32} {M : Nat} {en i t : Int32} (h : wkI fa qu M en.toInt.toNat) (hi0 : 0 ≤ i.toInt) (hi : i.toInt < en.toInt) (e : t = qu i.toNatClampNeg) : TF fa M en t := by
  obtain ⟨h1, h2, h3, h4⟩ := h.1 i.toInt.toNat (by omega)
  rw [e]
  exact ⟨h1, h2, h3, by have h5 : (fa (qu i.toNatClampNeg).toInt.toNat).toInt ≤ (en.toInt.toNat : Int) := h4; omega⟩
theorem TF.v {fa : Nat → Int32} {M : Nat} {en t z : Int32} (h : TF fa M en t) (e : z = fa t.toNatClampNeg) : 0 ≤ z.toInt ∧ z.toInt ≤ en.toInt := by
  rw [e]; exact ⟨h.2.2.1, h.2.2.2⟩
theorem wk_push {fa qu fa' qu' : Nat → Int32} {M : Nat} {en en' to v : Int32} (h : wkI fa qu M en.toInt.toNat) (he : 0 ≤ en.toInt) (hto0 : 0 ≤ to.toInt) (hto : to.toInt.toNat < M) (hf : fa to.toNatClampNeg = -1) (hv0 : 0 ≤ v.toInt) (hv : v.toInt ≤ en.toInt + 1) (e1 : upd fa to.toNatClampNeg v = fa') (e2 : upd qu en.toNatClampNeg to = qu') (e3 : en'.toInt = en.toInt + 1) : wkI fa' qu' M en'.toInt.toNat := by
  have e4 : en'.toInt.toNat = en.toInt.toNat + 1 := by omega
  rw [← e1, ← e2, e4]
  exact wkI_push (E := en.toInt.toNat) h hto0 hto hf hv0 (by omega)
theorem wk_keep {fa fa' : Nat → Int32} {M : Nat} {en en' t to v : Int32} (h : TF fa M en t) (hf : fa to.toNatClampNeg = -1) (e1 : upd fa to.toNatClampNeg v = fa') (e3 : en.toInt ≤ en'.toInt) : TF fa' M en' t := by
  obtain ⟨h1, h2, h3, h4⟩ := h
  have hne : t.toInt.toNat ≠ to.toNatClampNeg := fun q => by
    rw [q, hf] at h3
    have q1 : (-1 : Int32).toInt = -1 := by decide
    rw [q1] at h3; omega
  rw [← e1]
  refine ⟨h1, h2, ?_, ?_⟩
  · rw [pk_un hne]; exact h3
  · rw [pk_un hne]; omega
theorem wk_first {fa qu fa' qu' : Nat → Int32} {M : Nat} {x : Int32} (hx0 : 0 ≤ x.toInt) (hx : x.toInt.toNat < M) (hf : fa x.toNatClampNeg = -1) (e1 : upd fa x.toNatClampNeg 0 = fa') (e2 : upd qu (0 : Int32).toNatClampNeg x = qu') : wkI fa' qu' M (1 : Int32).toInt.toNat := by
  rw [← e1, ← e2]
  exact wkI_start hx0 hx hf
theorem wkI_le {fa qu : Nat → Int32} {M : Nat} {en : Int32} (h : wkI fa qu M en.toInt.toNat) : en.toInt ≤ (M : Int) := by
  have q := h.2
  omega
theorem wk_int {t u b k f z1 z2 z3 rs z5 to p n : Int} (h1 : z1 = t / u) (h2 : z2 = z1 % b) (h3 : z3 = z2 * u) (h4 : rs = t - z3) (h5 : z5 = f * u) (h6 : to = rs + z5) (hu : u.toNat = b.toNat ^ p.toNat) (hu1 : 1 ≤ u) (hb : 2 ≤ b) (hk : k = ((b.toNat ^ n.toNat : Nat) : Int)) (hp0 : 0 ≤ p) (hp : p < n) (ht0 : 0 ≤ t) (ht : t < k) (hf0 : 0 ≤ f) (hf : f < b) : 0 ≤ to ∧ to < k := by
  obtain ⟨T, rfl⟩ := Int.eq_ofNat_of_zero_le ht0
  obtain ⟨U, rfl⟩ := Int.eq_ofNat_of_zero_le (show 0 ≤ u by omega)
  obtain ⟨B, rfl⟩ := Int.eq_ofNat_of_zero_le (show 0 ≤ b by omega)
  obtain ⟨F, rfl⟩ := Int.eq_ofNat_of_zero_le hf0
  have eU : U = B ^ p.toNat := hu
  have eK : k = ((B ^ n.toNat : Nat) : Int) := hk
  have e2 : z2 = ((T / U % B : Nat) : Int) := by rw [h2, h1]; rfl
  have e3 : z3 = ((T / U % B * U : Nat) : Int) := by rw [h3, e2]; exact (Int.natCast_mul _ _).symm
  have e5 : z5 = ((F * U : Nat) : Int) := by rw [h5]; exact (Int.natCast_mul _ _).symm
  have hs := pw_split (b := B) (p := p.toNat) (n := n.toNat) (by omega)
  have hT : T < U * B * B ^ (n.toNat - 1 - p.toNat) := by rw [eU, hs]; omega
  have q := wk_to (t := T) (u := U) (b := B) (x := B ^ (n.toNat - 1 - p.toNat)) (f := F) (by omega) hT (by omega)
  have q2 : U * B * B ^ (n.toNat - 1 - p.toNat) = B ^ n.toNat := by rw [eU, hs]
  rw [q2] at q
  obtain ⟨q3, q4⟩ := q
  generalize T / U % B * U = G at e3 q3 q4
  generalize F * U = G2 at e5 q4
  omega
theorem wk_unit {u b z p n p' : Int32} {k : Int} (hu : u.toInt.toNat = b.toInt.toNat ^ p.toInt.toNat) (hz : z.toInt = u.toInt * b.toInt) (hu1 : 1 ≤ u.toInt) (hb : 2 ≤ b.toInt) (hk : k = ((b.toInt.toNat ^ n.toInt.toNat : Nat) : Int)) (hp0 : 0 ≤ p.toInt) (hp : p.toInt < n.toInt) (hp' : p'.toInt = p.toInt + 1) : z.toInt.toNat = b.toInt.toNat ^ p'.toInt.toNat ∧ 1 ≤ z.toInt ∧ z.toInt ≤ k := by
  have e : p'.toInt.toNat = p.toInt.toNat + 1 := by omega
  have eb : b.toInt = ((b.toInt.toNat : Nat) : Int) := by omega
  have eu : u.toInt = ((u.toInt.toNat : Nat) : Int) := by omega
  have ez : z.toInt = ((b.toInt.toNat ^ (p.toInt.toNat + 1) : Nat) : Int) := by
    rw [hz, Nat.pow_succ, ← hu, Int.natCast_mul, ← eb, ← eu]
  have h1 : b.toInt.toNat ^ (p.toInt.toNat + 1) ≤ b.toInt.toNat ^ n.toInt.toNat := Nat.pow_le_pow_right (by omega) (by omega)
  have h2 : 1 ≤ b.toInt.toNat ^ (p.toInt.toNat + 1) := Nat.one_le_pow _ _ (by omega)
  rw [e]
  omega
theorem nw_step {f g : Nat → Int32} {i i' : Int32} (h : ∀ j : Nat, j < i.toInt.toNat → f j = -1) (h0 : 0 ≤ i.toInt) (h1 : i'.toInt = i.toInt + 1) (e : upd f i.toNatClampNeg (-1) = g) : ∀ j : Nat, j < i'.toInt.toNat → g j = -1 := fun j hj => by
  rw [← e]
  by_cases q : j = i.toNatClampNeg
  · rw [q, pk_us]
  · rw [pk_un q]
    exact h j (by have q2 : j ≠ i.toInt.toNat := q; omega)
