def GW (f : Nat → Int32) : Prop := ((0 ≤ (f 0).toInt ∧ (f 0).toInt ≤ 12) ∧ (0 ≤ (f 1).toInt ∧ (f 1).toInt ≤ 16) ∧ (0 ≤ (f 2).toInt ∧ (f 2).toInt ≤ 20000) ∧ (0 ≤ (f 3).toInt ∧ (f 3).toInt ≤ 9)) ∧ (((f 0).toInt = 0 ∧ (f 1).toInt = 0 ∧ (f 2).toInt = 0 ∧ (f 3).toInt = 0) ∨ (1 ≤ (f 0).toInt ∧ 2 ≤ (f 1).toInt ∧ 1 ≤ (f 2).toInt)) ∧ pvw f (f 3) ∧ ((f 2).toInt = 0 ∨ (f 2).toInt = (((f 1).toInt.toNat ^ (f 0).toInt.toNat : Nat) : Int))
theorem stp_congr {f g : Nat → Int32} {D : Nat → Nat} {k : Nat} (h0 : g (15 + 3 * k) = f (15 + 3 * k)) (h2 : g (15 + 3 * k + 2) = f (15 + 3 * k + 2)) (h : stp f D k) : stp g D k := by
  unfold stp at h ⊢
  rw [h0, h2]
  exact h
theorem pvw_congr {f g : Nat → Int32} {lw : Int32} (hl : lw.toInt ≤ 9) (h : ∀ j : Nat, j < 1875 → g j = f j) (hf : pvw f lw) : pvw g lw := fun n hn => by
  obtain ⟨D, h1, h2, h3, h4, h5⟩ := hf n hn
  have e5 : g (5 + n) = f (5 + n) := h _ (by omega)
  have e6 : g (6 + n) = f (6 + n) := h _ (by omega)
  rw [e5, e6]
  exact ⟨D, h1, h2, h3, h4, fun k k1 k2 => stp_congr (h _ (by omega)) (h _ (by omega)) (h5 k k1 k2)⟩
theorem GW.congr {f g : Nat → Int32} (h : ∀ j : Nat, j < 1875 → g j = f j) (hf : GW f) : GW g := by
  unfold GW at hf ⊢
  rw [h 0 (by omega), h 1 (by omega), h 2 (by omega), h 3 (by omega)]
  exact ⟨hf.1, hf.2.1, pvw_congr hf.1.2.2.2.2 h hf.2.2.1, hf.2.2.2⟩
theorem GW_zero {f : Nat → Int32} (h : ∀ j : Nat, j < 1875 → f j = 0) : GW f := by
  have z : (0 : Int32).toInt = 0 := by decide
  unfold GW
  rw [h 0 (by omega), h 1 (by omega), h 2 (by omega), h 3 (by omega), z]
  exact ⟨by omega, by omega, fun n hn => by rw [z] at hn; omega, by omega⟩
def GI (im hi : Nat → Int32) : Prop := ∀ k : Nat, k < 3 → hi k ≠ 0 → GW (fun j => im (1875 * k + j))
theorem im_1 {f g src : Nat → Int32} {a i i' z v : Int32} (h : ∀ j : Nat, j < i.toInt.toNat → f (1875 * a.toInt.toNat + j) = src j) (ha : 0 ≤ a.toInt) (hi : 0 ≤ i.toInt) (hi' : i'.toInt = i.toInt + 1) (hz : z.toInt = 1875 * a.toInt + i.toInt) (ev : v = src i.toNatClampNeg) (e : upd f z.toNatClampNeg v = g) : ∀ j : Nat, j < i'.toInt.toNat → g (1875 * a.toInt.toNat + j) = src j := fun j hj => by
  have ez : z.toNatClampNeg = 1875 * a.toInt.toNat + i.toInt.toNat := by
    show z.toInt.toNat = _
    omega
  rw [← e, ez]
  by_cases q : j = i.toInt.toNat
  · rw [q, pk_us, ev]; rfl
  · rw [pk_un (by omega)]; exact h j (by omega)
theorem im_2 {f g w : Nat → Int32} {a i z v : Int32} (h : ∀ q : Nat, (q < 1875 * a.toInt.toNat ∨ 1875 * a.toInt.toNat + 1875 ≤ q) → f q = w q) (ha : 0 ≤ a.toInt) (hi : 0 ≤ i.toInt) (hi2 : i.toInt < 1875) (hz : z.toInt = 1875 * a.toInt + i.toInt) (e : upd f z.toNatClampNeg v = g) : ∀ q : Nat, (q < 1875 * a.toInt.toNat ∨ 1875 * a.toInt.toNat + 1875 ≤ q) → g q = w q := fun q hq => by
  have ez : z.toNatClampNeg = 1875 * a.toInt.toNat + i.toInt.toNat := by
    show z.toInt.toNat = _
    omega
  rw [← e, ez, pk_un (by omega)]
  exact h q hq
theorem gi_set {im im' hi hi' wo : Nat → Int32} {a v : Int32} (hg : GI im hi) (hw : GW wo) (ha : 0 ≤ a.toInt ∧ a.toInt ≤ 2) (h1 : ∀ j : Nat, j < 1875 → im' (1875 * a.toInt.toNat + j) = wo j) (h2 : ∀ q : Nat, (q < 1875 * a.toInt.toNat ∨ 1875 * a.toInt.toNat + 1875 ≤ q) → im' q = im q) (e : upd hi a.toNatClampNeg v = hi') : GI im' hi' := fun k hk hne => by
  by_cases q : k = a.toInt.toNat
  · subst q
    exact GW.congr (fun j hj => h1 j hj) hw
  · have hne2 : hi k ≠ 0 := fun z => hne (by rw [← e, pk_un (show k ≠ a.toNatClampNeg from q)]; exact z)
    exact GW.congr (fun j hj => h2 _ (by omega)) (hg k hk hne2)
theorem bk_1 {f g im : Nat → Int32} {a i i' z v : Int32} (h : ∀ j : Nat, j < i.toInt.toNat → f j = im (1875 * a.toInt.toNat + j)) (ha : 0 ≤ a.toInt) (hi : 0 ≤ i.toInt) (hi' : i'.toInt = i.toInt + 1) (hz : z.toInt = 1875 * a.toInt + i.toInt) (ev : v = im z.toNatClampNeg) (e : upd f i.toNatClampNeg v = g) : ∀ j : Nat, j < i'.toInt.toNat → g j = im (1875 * a.toInt.toNat + j) := fun j hj => by
  have ez : z.toNatClampNeg = 1875 * a.toInt.toNat + i.toInt.toNat := by
    show z.toInt.toNat = _
    omega
  have ei : i.toNatClampNeg = i.toInt.toNat := rfl
  rw [← e, ei]
  by_cases q : j = i.toInt.toNat
  · rw [q, pk_us, ev, ez]
  · rw [pk_un q]; exact h j (by omega)
theorem cp_1 {f g src : Nat → Int32} {i i' v : Int32} (h : ∀ j : Nat, j < i.toInt.toNat → f j = src j) (hi : 0 ≤ i.toInt) (hi' : i'.toInt = i.toInt + 1) (ev : v = src i.toNatClampNeg) (e : upd f i.toNatClampNeg v = g) : ∀ j : Nat, j < i'.toInt.toNat → g j = src j := fun j hj => by
  have ei : i.toNatClampNeg = i.toInt.toNat := rfl
  rw [← e, ei]
  by_cases q : j = i.toInt.toNat
  · rw [q, pk_us, ev, ei]
  · rw [pk_un q]; exact h j (by omega)
theorem z_1 {f g : Nat → Int32} {i i' : Int32} (h : ∀ j : Nat, j < i.toInt.toNat → f j = 0) (hi : 0 ≤ i.toInt) (hi' : i'.toInt = i.toInt + 1) (e : upd f i.toNatClampNeg 0 = g) : ∀ j : Nat, j < i'.toInt.toNat → g j = 0 := fun j hj => by
  have ei : i.toNatClampNeg = i.toInt.toNat := rfl
  rw [← e, ei]
  by_cases q : j = i.toInt.toNat
  · rw [q, pk_us]
  · rw [pk_un q]; exact h j (by omega)
