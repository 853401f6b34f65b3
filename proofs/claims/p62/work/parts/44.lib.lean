def seef (f : Nat → Int32) (sz k : Int32) : Int32 := if k.toInt < sz.toInt then f k.toNatClampNeg &&& 255 else -1
theorem seef_n {f : Nat → Int32} {sz k : Int32} (h : sz.toInt ≤ k.toInt) : (-1 : Int32) = seef f sz k := (if_neg (by omega)).symm
theorem seef_y {f : Nat → Int32} {sz k z y : Int32} (h : k.toInt < sz.toInt) (e1 : y = f k.toNatClampNeg) (e2 : z = y &&& 255) : z = seef f sz k := by
  unfold seef
  rw [if_pos h, e2, e1]
theorem seef_lt {f : Nat → Int32} {sz k r : Int32} (h : r = seef f sz k) (hr : 0 ≤ r.toInt) : k.toInt < sz.toInt := by
  by_cases q : k.toInt < sz.toInt
  · exact q
  · have e : r = -1 := h.trans (if_neg q)
    have z : (-1 : Int32).toInt = -1 := by decide
    rw [e, z] at hr
    omega
theorem seef_eq {f : Nat → Int32} {sz k k' r r' : Int32} (h : r = seef f sz k) (h' : r' = seef f sz k') (hk : k'.toInt = k.toInt) : r' = r := by
  rw [h, h', Int32.toInt_inj.mp hk]
def nl_ (f : Nat → Int32) : Nat := (f 3).toInt.toNat
def kK (f : Nat → Int32) : Int32 := f (6 + nl_ f)
def stf (f : Nat → Int32) (a b c k1 : Int32) : Nat → Int32 := upd (upd (upd (upd f (15 + 3 * (kK f).toInt.toNat) a) (15 + 3 * (kK f).toInt.toNat + 1) b) (15 + 3 * (kK f).toInt.toNat + 2) c) (6 + nl_ f) k1
theorem stf_n {f f1 f2 f3 : Nat → Int32} {x1 x2 x3 a b c n : Int32} (h1 : 15 ≤ x1.toInt) (h2 : 15 ≤ x2.toInt) (h3 : 15 ≤ x3.toInt) (e1 : upd f x1.toNatClampNeg a = f1) (e2 : upd f1 x2.toNatClampNeg b = f2) (e3 : upd f2 x3.toNatClampNeg c = f3) (hn : n = f3 (3 : Int32).toNatClampNeg) : n = f 3 := by
  have z : (3 : Int32).toNatClampNeg = 3 := by decide
  have q1 : (3 : Nat) ≠ x1.toNatClampNeg := by
    show 3 ≠ x1.toInt.toNat
    omega
  have q2 : (3 : Nat) ≠ x2.toNatClampNeg := by
    show 3 ≠ x2.toInt.toNat
    omega
  have q3 : (3 : Nat) ≠ x3.toNatClampNeg := by
    show 3 ≠ x3.toInt.toNat
    omega
  rw [hn, z, ← e3, pk_un q3, ← e2, pk_un q2, ← e1, pk_un q1]
theorem stf_of {f f1 f2 f3 f4 : Nat → Int32} {n i i' k x1 x2 x3 k1 a b c : Int32} (hn : n = f 3) (hn0 : 0 ≤ n.toInt) (hi : i.toInt = n.toInt + 6) (hk : k = f i.toNatClampNeg) (hk0 : 0 ≤ k.toInt) (hx1 : x1.toInt = 15 + 3 * k.toInt) (hx2 : x2.toInt = x1.toInt + 1) (hx3 : x3.toInt = x1.toInt + 2) (e1 : upd f x1.toNatClampNeg a = f1) (e2 : upd f1 x2.toNatClampNeg b = f2) (e3 : upd f2 x3.toNatClampNeg c = f3) (hi' : i'.toInt = i.toInt) (hk1 : k1.toInt = k.toInt + 1) (e4 : upd f3 i'.toNatClampNeg k1 = f4) : ∃ k1 : Int32, k1.toInt = (kK f).toInt + 1 ∧ f4 = stf f a b c k1 := by
  have ei : i.toNatClampNeg = 6 + nl_ f := by
    show i.toInt.toNat = 6 + (f 3).toInt.toNat
    rw [← hn]
    omega
  have ei' : i'.toNatClampNeg = 6 + nl_ f := by
    rw [← ei]
    show i'.toInt.toNat = i.toInt.toNat
    rw [hi']
  have ek : k = kK f := by rw [hk, ei]; rfl
  have ex1 : x1.toNatClampNeg = 15 + 3 * (kK f).toInt.toNat := by
    show x1.toInt.toNat = _
    rw [← ek]
    omega
  have ex2 : x2.toNatClampNeg = 15 + 3 * (kK f).toInt.toNat + 1 := by
    show x2.toInt.toNat = _
    rw [← ek]
    omega
  have ex3 : x3.toNatClampNeg = 15 + 3 * (kK f).toInt.toNat + 2 := by
    show x3.toInt.toNat = _
    rw [← ek]
    omega
  refine ⟨k1, by rw [← ek]; exact hk1, ?_⟩
  rw [← e4, ← e3, ← e2, ← e1, ei', ex1, ex2, ex3]
  rfl
theorem stf_lo {f : Nat → Int32} {a b c k1 : Int32} {j : Nat} (h : j < 15) (h2 : j ≠ 6 + nl_ f) : stf f a b c k1 j = f j := by
  unfold stf
  rw [pk_un h2, pk_un (by omega), pk_un (by omega), pk_un (by omega)]
theorem stf_k {f : Nat → Int32} {a b c k1 : Int32} : stf f a b c k1 (6 + nl_ f) = k1 := by
  unfold stf
  rw [pk_us]
theorem stf_hi {f : Nat → Int32} {a b c k1 : Int32} {k i : Nat} (hn : nl_ f ≤ 8) (h : k ≠ (kK f).toInt.toNat) (hi : i < 3) : stf f a b c k1 (15 + 3 * k + i) = f (15 + 3 * k + i) := by
  unfold stf
  rw [pk_un (by omega), pk_un (by omega), pk_un (by omega), pk_un (by omega)]
theorem stf_a {f : Nat → Int32} {a b c k1 : Int32} (hn : nl_ f ≤ 8) : stf f a b c k1 (15 + 3 * (kK f).toInt.toNat) = a := by
  unfold stf
  rw [pk_un (by omega), pk_un (by omega), pk_un (by omega), pk_us]
theorem stf_c {f : Nat → Int32} {a b c k1 : Int32} (hn : nl_ f ≤ 8) : stf f a b c k1 (15 + 3 * (kK f).toInt.toNat + 2) = c := by
  unfold stf
  rw [pk_un (by omega), pk_us]
theorem stf_nl {f : Nat → Int32} {a b c k1 : Int32} : nl_ (stf f a b c k1) = nl_ f := by
  show (stf f a b c k1 3).toInt.toNat = _
  rw [stf_lo (by omega) (by omega)]
  rfl
theorem stf_kK {f : Nat → Int32} {a b c k1 : Int32} : kK (stf f a b c k1) = k1 := by
  show stf f a b c k1 (6 + nl_ (stf f a b c k1)) = k1
  rw [stf_nl, stf_k]
def PV (f : Nat → Int32) (d : Nat) : Prop := (0 ≤ (f 3).toInt ∧ (f 3).toInt ≤ 8) ∧ pvw f (f 3) ∧ ∃ D : Nat → Nat, 0 ≤ (f (5 + nl_ f)).toInt ∧ (f (5 + nl_ f)).toInt ≤ (kK f).toInt ∧ D (f (5 + nl_ f)).toInt.toNat = 0 ∧ D (kK f).toInt.toNat = d ∧ ∀ k : Nat, (f (5 + nl_ f)).toInt ≤ (k : Int) → (k : Int) < (kK f).toInt → stp f D k
theorem pv_chain {f : Nat → Int32} {lw : Int32} (h : pvw f lw) : ∀ (i n : Nat), ((n + i : Nat) : Int) < lw.toInt → (f (6 + n)).toInt ≤ (f (6 + (n + i))).toInt
  | 0, _, _ => Int.le_refl _
  | i + 1, n, hn => by
    obtain ⟨-, -, h2, -⟩ := h (n + (i + 1)) hn
    have q := pv_chain h i n (by omega)
    have e : 5 + (n + (i + 1)) = 6 + (n + i) := by omega
    rw [e] at h2
    exact Int.le_trans q h2
theorem pv_end {f : Nat → Int32} (h0 : 0 ≤ (f 3).toInt) (h : pvw f (f 3)) {n : Nat} (hn : n < nl_ f) : (f (6 + n)).toInt ≤ (f (5 + nl_ f)).toInt := by
  have e0 : nl_ f = (f 3).toInt.toNat := rfl
  have q := pv_chain h (nl_ f - 1 - n) n (by omega)
  have e : 6 + (n + (nl_ f - 1 - n)) = 5 + nl_ f := by omega
  rw [e] at q
  exact q
def SC (a : Int32) (d d' : Nat) (c : Int32) : Prop := (a.toInt = 9 → 1 ≤ d ∧ d' = d) ∧ ((a.toInt = 10 ∨ a.toInt = 11) → 2 ≤ d ∧ d' + 1 = d) ∧ (a.toInt ≠ 9 → a.toInt ≠ 10 → a.toInt ≠ 11 → d ≤ 25 ∧ d' = d + 1) ∧ (a.toInt = 6 → 1 ≤ c.toInt)
theorem PV.step {f : Nat → Int32} {d d' : Nat} {a b c k1 : Int32} (h : PV f d) (hk : k1.toInt = (kK f).toInt + 1) (hc : SC a d d' c) : PV (stf f a b c k1) d' := by
  obtain ⟨hn, hp, D, h1, h2, h3, h4, h5⟩ := h
  have e0 : nl_ f = (f 3).toInt.toNat := rfl
  have hn8 : nl_ f ≤ 8 := by omega
  have e3 : stf f a b c k1 3 = f 3 := stf_lo (by omega) (by omega)
  have e5 : stf f a b c k1 (5 + nl_ f) = f (5 + nl_ f) := stf_lo (by omega) (by omega)
  have hst : ∀ (D2 : Nat → Nat) (k : Nat), k ≠ (kK f).toInt.toNat → stp f D2 k → stp (stf f a b c k1) D2 k := fun D2 k hk2 hs => stp_congr (stf_hi (i := 0) hn8 hk2 (by omega)) (stf_hi (i := 2) hn8 hk2 (by omega)) hs
  obtain ⟨D', hD1, hD2⟩ : ∃ D' : Nat → Nat, (∀ j, j ≤ (kK f).toInt.toNat → D' j = D j) ∧ D' ((kK f).toInt.toNat + 1) = d' := ⟨fun j => if j = (kK f).toInt.toNat + 1 then d' else D j, fun j hj => if_neg (by omega), if_pos rfl⟩
  refine ⟨by rw [e3]; exact hn, ?_, D', ?_⟩
  · rw [e3]
    intro n hn2
    obtain ⟨D2, g1, g2, g3, g4, g5⟩ := hp n hn2
    have g6 := pv_end hn.1 hp (n := n) (by omega)
    have q5 : stf f a b c k1 (5 + n) = f (5 + n) := stf_lo (by omega) (by omega)
    have q6 : stf f a b c k1 (6 + n) = f (6 + n) := stf_lo (by omega) (by omega)
    rw [q5, q6]
    exact ⟨D2, g1, g2, g3, g4, fun k k1' k2 => hst D2 k (by omega) (g5 k k1' k2)⟩
  · rw [stf_nl, stf_kK, e5]
    refine ⟨h1, by omega, ?_, ?_, fun k k1' k2 => ?_⟩
    · rw [hD1 _ (by omega)]; exact h3
    · have e9 : k1.toInt.toNat = (kK f).toInt.toNat + 1 := by omega
      rw [e9]; exact hD2
    · by_cases q : k = (kK f).toInt.toNat
      · subst q
        unfold stp
        rw [stf_a hn8, stf_c hn8, hD1 (kK f).toInt.toNat (Nat.le_refl _), hD2, h4]
        exact hc
      · have hs2 := hst D k q (h5 k k1' (by omega))
        unfold stp at hs2 ⊢
        rw [hD1 k (by omega), hD1 (k + 1) (by omega)]
        exact hs2
def cj (f : Nat → Int32) : Nat → Nat
  | 0 => 0
  | n + 1 => cj f n + (if (f n).toInt = 10 ∨ (f n).toInt = 11 then 1 else 0)
def cw (f : Nat → Int32) : Nat → Nat
  | 0 => 0
  | n + 1 => cw f n + (if (f n).toInt = 9 ∨ (f n).toInt = 10 ∨ (f n).toInt = 11 then 1 else 0)
theorem cj_upd {f : Nat → Int32} {j : Nat} {v : Int32} : ∀ n, n ≤ j → cj (upd f j v) n = cj f n
  | 0, _ => rfl
  | n + 1, h => by
    show cj (upd f j v) n + _ = cj f n + _
    rw [cj_upd n (by omega), pk_un (by omega)]
theorem cw_upd {f : Nat → Int32} {j : Nat} {v : Int32} : ∀ n, n ≤ j → cw (upd f j v) n = cw f n
  | 0, _ => rfl
  | n + 1, h => by
    show cw (upd f j v) n + _ = cw f n + _
    rw [cw_upd n (by omega), pk_un (by omega)]
theorem cj_le (f : Nat → Int32) : ∀ n, cj f n ≤ cw f n
  | 0 => Nat.le_refl 0
  | n + 1 => by
    have q := cj_le f n
    simp only [cj, cw]
    by_cases h : (f n).toInt = 10 ∨ (f n).toInt = 11
    · rw [if_pos h, if_pos (Or.inr h)]; omega
    · rw [if_neg h]; omega
def HDR (f : Nat → Int32) : Prop := (1 ≤ (f 0).toInt ∧ (f 0).toInt ≤ 12 ∧ 2 ≤ (f 1).toInt ∧ (f 1).toInt ≤ 16 ∧ (f 2).toInt ≤ 20000) ∧ (f 2).toInt = (((f 1).toInt.toNat ^ (f 0).toInt.toNat : Nat) : Int)
theorem HDR.congr {f g : Nat → Int32} (h0 : g 0 = f 0) (h1 : g 1 = f 1) (h2 : g 2 = f 2) (h : HDR f) : HDR g := by
  unfold HDR at h ⊢
  rw [h0, h1, h2]
  exact h
def LI (f wt : Nat → Int32) (w jo : Int32) (pos : Int32) (x : Nat) : Prop := HDR f ∧ PV f (cj wt w.toInt.toNat + x) ∧ 2 * ((kK f).toInt + (cw wt w.toInt.toNat : Int)) ≤ pos.toInt ∧ (cj wt w.toInt.toNat : Int) ≤ jo.toInt
theorem LI.k {f wt : Nat → Int32} {w jo pos : Int32} {x : Nat} (h : LI f wt w jo pos x) (hp : pos.toInt ≤ 1200) : (0 ≤ (f 3).toInt ∧ (f 3).toInt ≤ 8) ∧ 0 ≤ (kK f).toInt ∧ (kK f).toInt ≤ 600 := by
  obtain ⟨-, ⟨h1, -, D, h2, h3, -⟩, h4, -⟩ := h
  exact ⟨h1, by omega, by omega⟩
theorem LI.pos {f wt : Nat → Int32} {w jo pos pos' : Int32} {x : Nat} (h : LI f wt w jo pos x) (hp : pos.toInt ≤ pos'.toInt) : LI f wt w jo pos' x := ⟨h.1, h.2.1, by have q := h.2.2.1; omega, h.2.2.2⟩
theorem LI.start {f wt : Nat → Int32} {pos : Int32} (h : HDR f ∧ PV f 0 ∧ 2 * (kK f).toInt ≤ pos.toInt) : LI f wt 0 0 pos 0 := by
  have z : (0 : Int32).toInt.toNat = 0 := by decide
  refine ⟨h.1, ?_, ?_, ?_⟩
  · rw [z]; exact h.2.1
  · rw [z]; have q := h.2.2; show 2 * ((kK f).toInt + ((0 : Nat) : Int)) ≤ _; omega
  · rw [z]; show ((0 : Nat) : Int) ≤ (0 : Int32).toInt; decide
theorem LI.done {f g wt : Nat → Int32} {w w' jo pos a b c : Int32} (h : LI f wt w jo pos 1) (hw : w'.toInt = w.toInt - 1) (hw1 : 1 ≤ w.toInt) (ha : a = wt w'.toNatClampNeg) (hk : a.toInt = 9 ∨ a.toInt = 10 ∨ a.toInt = 11) (e : ∃ k1 : Int32, k1.toInt = (kK f).toInt + 1 ∧ g = stf f a b c k1) : LI g wt w' jo pos 1 := by
  obtain ⟨h1, h2, h3, h4⟩ := h
  obtain ⟨k1, e1, rfl⟩ := e
  have ew : w.toInt.toNat = w'.toInt.toNat + 1 := by omega
  have ea : wt w'.toInt.toNat = a := ha.symm
  rw [ew] at h2 h3 h4
  simp only [cj, cw, ea] at h2 h3 h4
  rw [if_pos hk] at h3
  refine ⟨HDR.congr (stf_lo (by omega) (by omega)) (stf_lo (by omega) (by omega)) (stf_lo (by omega) (by omega)) h1, PV.step h2 e1 ?_, ?_, by omega⟩
  · refine ⟨fun q => ?_, fun q => ?_, fun q1 q2 q3 => ?_, fun q => ?_⟩
    · rw [if_neg (by omega)]; exact ⟨by omega, by omega⟩
    · rw [if_pos q]; exact ⟨by omega, by omega⟩
    · omega
    · omega
  · rw [stf_kK]; omega
theorem LI.add {f g wt : Nat → Int32} {w jo pos pos' a b c : Int32} (h : LI f wt w jo pos 0) (hj : jo.toInt ≤ 24) (hp : pos.toInt + 2 ≤ pos'.toInt) (ha : 0 ≤ a.toInt ∧ a.toInt ≤ 8) (hc : a.toInt = 6 → 1 ≤ c.toInt) (e : ∃ k1 : Int32, k1.toInt = (kK f).toInt + 1 ∧ g = stf f a b c k1) : LI g wt w jo pos' 1 := by
  obtain ⟨h1, h2, h3, h4⟩ := h
  obtain ⟨k1, e1, rfl⟩ := e
  refine ⟨HDR.congr (stf_lo (by omega) (by omega)) (stf_lo (by omega) (by omega)) (stf_lo (by omega) (by omega)) h1, PV.step h2 e1 ⟨fun q => by omega, fun q => by omega, fun _ _ _ => ⟨by omega, by omega⟩, hc⟩, ?_, h4⟩
  rw [stf_kK]; omega
theorem LI.push {f wt wt' : Nat → Int32} {w w' jo jo' pos pos' a : Int32} {x x' : Nat} (h : LI f wt w jo pos x) (hw : w'.toInt = w.toInt + 1) (hw0 : 0 ≤ w.toInt) (e : upd wt w.toNatClampNeg a = wt') (hx : (a.toInt = 9 ∨ a.toInt = 12) ∧ x' = x ∧ jo'.toInt = jo.toInt ∨ (a.toInt = 10 ∨ a.toInt = 11) ∧ x = 1 ∧ x' = 0 ∧ jo'.toInt = jo.toInt + 1) (hp : pos.toInt ≤ pos'.toInt) (hp2 : a.toInt ≠ 12 → pos.toInt + 2 ≤ pos'.toInt) : LI f wt' w' jo' pos' x' := by
  obtain ⟨h1, h2, h3, h4⟩ := h
  have ew : w'.toInt.toNat = w.toInt.toNat + 1 := by omega
  have ew2 : w.toNatClampNeg = w.toInt.toNat := rfl
  have ea : wt' w.toInt.toNat = a := by rw [← e, ew2, pk_us]
  have ej : cj wt' w.toInt.toNat = cj wt w.toInt.toNat := by rw [← e, ew2]; exact cj_upd _ (Nat.le_refl _)
  have ec : cw wt' w.toInt.toNat = cw wt w.toInt.toNat := by rw [← e, ew2]; exact cw_upd _ (Nat.le_refl _)
  refine ⟨h1, ?_, ?_, ?_⟩
  · rw [ew]
    simp only [cj, ea, ej]
    rcases hx with ⟨q1, q2, -⟩ | ⟨q1, q2, q3, -⟩
    · rw [if_neg (by omega), q2]; exact h2
    · rw [if_pos q1, q3]
      have e9 : cj wt w.toInt.toNat + 1 + 0 = cj wt w.toInt.toNat + x := by omega
      rw [e9]; exact h2
  · rw [ew]
    simp only [cw, ea, ec]
    by_cases q : a.toInt = 9 ∨ a.toInt = 10 ∨ a.toInt = 11
    · rw [if_pos q]; have q2 := hp2 (by omega); omega
    · rw [if_neg q]; omega
  · rw [ew]
    simp only [cj, ea, ej]
    rcases hx with ⟨q1, -, q4⟩ | ⟨q1, -, -, q4⟩
    · rw [if_neg (by omega)]; omega
    · rw [if_pos q1]; omega
theorem LI.pop {f wt : Nat → Int32} {w w' jo pos : Int32} {x : Nat} (h : LI f wt w jo pos x) (hw : w'.toInt = w.toInt - 1) (hw1 : 1 ≤ w.toInt) (ha : ¬ ((wt w'.toInt.toNat).toInt = 10 ∨ (wt w'.toInt.toNat).toInt = 11)) : LI f wt w' jo pos x := by
  obtain ⟨h1, h2, h3, h4⟩ := h
  have ew : w.toInt.toNat = w'.toInt.toNat + 1 := by omega
  rw [ew] at h2 h3 h4
  simp only [cj, cw] at h2 h3 h4
  rw [if_neg ha] at h2 h4
  exact ⟨h1, h2, by omega, by omega⟩
theorem LI.fin {f wt : Nat → Int32} {w jo pos : Int32} {x : Nat} (h : LI f wt w jo pos x) : HDR f ∧ (∃ d, PV f d) ∧ 2 * (kK f).toInt ≤ pos.toInt := ⟨h.1, ⟨_, h.2.1⟩, by have q := h.2.2.1; omega⟩
def OPN (wt : Nat → Int32) (w : Int32) : Prop := ∃ k : Nat, k < w.toInt.toNat ∧ (wt k).toInt = 12
theorem OPN.one {wt : Nat → Int32} {w : Int32} (h : OPN wt w) : 1 ≤ w.toInt := by
  obtain ⟨k, h1, -⟩ := h
  omega
theorem OPN.done {wt : Nat → Int32} {w w' : Int32} (h : OPN wt w) (hw : w'.toInt = w.toInt - 1) (hk : (wt w'.toInt.toNat).toInt = 10 ∨ (wt w'.toInt.toNat).toInt = 11) : OPN wt w' := by
  obtain ⟨k, h1, h2⟩ := h
  refine ⟨k, ?_, h2⟩
  by_cases q : k = w'.toInt.toNat
  · rw [q] at h2; omega
  · omega
def BI (f : Nat → Int32) (pos : Int32) : Prop := (0 ≤ (f 3).toInt ∧ (f 3).toInt ≤ 9) ∧ pvw f (f 3) ∧ (0 ≤ (f (5 + nl_ f)).toInt ∧ 2 * (f (5 + nl_ f)).toInt ≤ pos.toInt) ∧ (HDR f ∨ ((f 0).toInt = 0 ∧ (f 1).toInt = 0 ∧ (f 2).toInt = 0 ∧ (f 3).toInt = 0 ∧ (f 4).toInt = 0))
theorem BI.pos {f : Nat → Int32} {p p' : Int32} (h : BI f p) (hp : p.toInt ≤ p'.toInt) : BI f p' := ⟨h.1, h.2.1, ⟨h.2.2.1.1, by have q := h.2.2.1.2; omega⟩, h.2.2.2⟩
theorem BI.zero {f : Nat → Int32} {p : Int32} (hp : 0 ≤ p.toInt) (h : ∀ j : Nat, j < 1875 → f j = 0) : BI f p := by
  have z : (0 : Int32).toInt = 0 := by decide
  have e : nl_ f = 0 := by
    show (f 3).toInt.toNat = 0
    rw [h 3 (by omega), z]; rfl
  unfold BI
  rw [e, h 0 (by omega), h 1 (by omega), h 2 (by omega), h 3 (by omega), h 4 (by omega), h (5 + 0) (by omega), z]
  exact ⟨by omega, fun n hn => by rw [z] at hn; omega, by omega, Or.inr (by omega)⟩
theorem pvw_upd {f : Nat → Int32} {lw v : Int32} {j : Nat} (hj : j < 5) (h : pvw f lw) : pvw (upd f j v) lw := fun n hn => by
  obtain ⟨D, h1, h2, h3, h4, h5⟩ := h n hn
  rw [pk_un (show 5 + n ≠ j by omega), pk_un (show 6 + n ≠ j by omega)]
  exact ⟨D, h1, h2, h3, h4, fun k k1 k2 => stp_congr (pk_un (by omega)) (pk_un (by omega)) (h5 k k1 k2)⟩
theorem BI.four {f g : Nat → Int32} {p v : Int32} (h : BI f p) (hd : HDR f) (e : upd f (4 : Int32).toNatClampNeg v = g) : BI g p := by
  have z : (4 : Int32).toNatClampNeg = 4 := by decide
  rw [z] at e
  have e3 : g 3 = f 3 := by rw [← e, pk_un (by omega)]
  have en : nl_ g = nl_ f := by
    show (g 3).toInt.toNat = (f 3).toInt.toNat
    rw [e3]
  have e5 : g (5 + nl_ f) = f (5 + nl_ f) := by rw [← e, pk_un (by omega)]
  refine ⟨by rw [e3]; exact h.1, by rw [e3, ← e]; exact pvw_upd (by omega) h.2.1, by rw [en, e5]; exact h.2.2.1, Or.inl (HDR.congr (by rw [← e, pk_un (by omega)]) (by rw [← e, pk_un (by omega)]) (by rw [← e, pk_un (by omega)]) hd)⟩
theorem BI.hdr {f : Nat → Int32} {p : Int32} (h : BI f p) (h4 : (f 4).toInt ≠ 0) : HDR f := by
  rcases h.2.2.2 with q | q
  · exact q
  · exact absurd q.2.2.2.2 h4
theorem BI.roll {f g : Nat → Int32} {p p' : Int32} (h : BI f p) (hp : p.toInt ≤ p'.toInt) (hd : HDR g) (hk : ∀ j : Nat, 3 ≤ j → g j = f j) : BI g p' := by
  have e3 : g 3 = f 3 := hk 3 (by omega)
  have en : nl_ g = nl_ f := by
    show (g 3).toInt.toNat = (f 3).toInt.toNat
    rw [e3]
  refine ⟨by rw [e3]; exact h.1, ?_, ?_, Or.inl hd⟩
  · rw [e3]
    intro n hn
    obtain ⟨D, h1, h2, h3, h4, h5⟩ := h.2.1 n hn
    rw [hk (5 + n) (by omega), hk (6 + n) (by omega)]
    exact ⟨D, h1, h2, h3, h4, fun k k1 k2 => stp_congr (hk _ (by omega)) (hk _ (by omega)) (h5 k k1 k2)⟩
  · rw [en, hk (5 + nl_ f) (by omega)]
    have q := h.2.2.1
    exact ⟨q.1, by omega⟩
theorem BI.law {f g : Nat → Int32} {p p' n i m v : Int32} (h : BI f p) (hp : p.toInt ≤ p'.toInt) (hd : HDR f) (h8 : (f 3).toInt ≤ 8) (hn : n = f 3) (hi : i.toInt = n.toInt + 6) (hm : m.toInt = n.toInt + 5) (hv : v = f m.toNatClampNeg) (e : upd f i.toNatClampNeg v = g) : HDR g ∧ PV g 0 ∧ 2 * (kK g).toInt ≤ p'.toInt := by
  obtain ⟨h1, h2, h3, -⟩ := h
  have e0 : nl_ f = (f 3).toInt.toNat := rfl
  have ei : i.toNatClampNeg = 6 + nl_ f := by
    show i.toInt.toNat = 6 + (f 3).toInt.toNat
    rw [← hn]
    rw [← hn] at h1
    omega
  have em : m.toNatClampNeg = 5 + nl_ f := by
    show m.toInt.toNat = 5 + (f 3).toInt.toNat
    rw [← hn]
    rw [← hn] at h1
    omega
  rw [em] at hv
  rw [ei] at e
  have e3 : g 3 = f 3 := by rw [← e, pk_un (by omega)]
  have en : nl_ g = nl_ f := by
    show (g 3).toInt.toNat = (f 3).toInt.toNat
    rw [e3]
  have e5 : g (5 + nl_ f) = f (5 + nl_ f) := by rw [← e, pk_un (by omega)]
  have ek : kK g = f (5 + nl_ f) := by
    show g (6 + nl_ g) = _
    rw [en, ← e, pk_us, hv]
  refine ⟨HDR.congr (by rw [← e, pk_un (by omega)]) (by rw [← e, pk_un (by omega)]) (by rw [← e, pk_un (by omega)]) hd, ⟨by rw [e3]; omega, ?_, fun _ => 0, ?_⟩, by rw [ek]; omega⟩
  · rw [e3]
    intro k hk
    obtain ⟨D, g1, g2, g3, g4, g5⟩ := h2 k hk
    have q5 : g (5 + k) = f (5 + k) := by rw [← e, pk_un (by omega)]
    have q6 : g (6 + k) = f (6 + k) := by rw [← e, pk_un (by omega)]
    rw [q5, q6]
    exact ⟨D, g1, g2, g3, g4, fun j j1 j2 => stp_congr (by rw [← e, pk_un (by omega)]) (by rw [← e, pk_un (by omega)]) (g5 j j1 j2)⟩
  · rw [en, e5, ek]
    exact ⟨h3.1, Int.le_refl _, rfl, rfl, fun j j1 j2 => by omega⟩
theorem BI.fin {f g : Nat → Int32} {p v z : Int32} (h : HDR f ∧ (∃ d, PV f d) ∧ 2 * (kK f).toInt ≤ p.toInt) (hp : p.toInt ≤ 1200) (hz : z = f (3 : Int32).toNatClampNeg) (hv : v.toInt = z.toInt + 1) (e : upd f (3 : Int32).toNatClampNeg v = g) : BI g p := by
  have z3 : (3 : Int32).toNatClampNeg = 3 := by decide
  rw [z3] at e hz
  obtain ⟨hd, ⟨d, h1, h2, D, d1, d2, d3, d4, d5⟩, hk⟩ := h
  rw [hz] at hv
  have e0 : nl_ f = (f 3).toInt.toNat := rfl
  have e3 : g 3 = v := by rw [← e, pk_us]
  have en : nl_ g = nl_ f + 1 := by
    show (g 3).toInt.toNat = _
    rw [e3]
    omega
  have eg : ∀ j : Nat, j ≠ 3 → g j = f j := fun j hj => by rw [← e, pk_un hj]
  have e5 : g (5 + nl_ g) = kK f := by
    rw [eg _ (by omega), en]
    show f (5 + (nl_ f + 1)) = f (6 + nl_ f)
    congr 1
    omega
  refine ⟨by rw [e3]; omega, ?_, by rw [e5]; omega, Or.inl (HDR.congr (eg _ (by omega)) (eg _ (by omega)) (eg _ (by omega)) hd)⟩
  rw [e3]
  intro k hk2
  rw [eg (5 + k) (by omega), eg (6 + k) (by omega)]
  by_cases q : k = nl_ f
  · subst q
    exact ⟨D, d1, d2, by show (kK f).toInt ≤ 620; omega, d3, fun j j1 j2 => stp_congr (eg _ (by omega)) (eg _ (by omega)) (d5 j j1 j2)⟩
  · obtain ⟨D2, g1, g2, g3, g4, g5⟩ := h2 k (by omega)
    exact ⟨D2, g1, g2, g3, g4, fun j j1 j2 => stp_congr (eg _ (by omega)) (eg _ (by omega)) (g5 j j1 j2)⟩
theorem BI.gw {f : Nat → Int32} {p : Int32} (h : BI f p) : GW f := by
  obtain ⟨h1, h2, -, h4⟩ := h
  rcases h4 with ⟨g1, g2⟩ | q
  · have h5 : 1 ≤ (f 1).toInt.toNat ^ (f 0).toInt.toNat := Nat.one_le_pow _ _ (by omega)
    exact ⟨⟨by omega, by omega, by omega, h1⟩, Or.inr (by omega), h2, Or.inr g2⟩
  · exact ⟨⟨by omega, by omega, by omega, h1⟩, Or.inl (by omega), h2, Or.inl (by omega)⟩
theorem pw_17 {v : Nat} {k : Nat} (hv : v ≤ 17) (hk : k ≤ 12) : v ^ k ≤ 582622237229761 := by
  have h1 : v ^ k ≤ 17 ^ k := Nat.pow_le_pow_left hv k
  have h2 : 17 ^ k ≤ 17 ^ 12 := Nat.pow_le_pow_right (by decide) hk
  have h3 : (17 : Nat) ^ 12 = 582622237229761 := by decide
  omega
theorem pl_step {a x z : Int64} {i i' : Int32} (h : x.toInt = ((a.toInt.toNat ^ i.toInt.toNat : Nat) : Int)) (hz : z.toInt = x.toInt * a.toInt) (ha : 0 ≤ a.toInt ∧ a.toInt ≤ 17) (h0 : 0 ≤ i.toInt) (hi : i'.toInt = i.toInt + 1) (h12 : i'.toInt ≤ 12) : z.toInt = ((a.toInt.toNat ^ i'.toInt.toNat : Nat) : Int) ∧ 0 ≤ z.toInt ∧ z.toInt ≤ 582622237229761 := by
  have e : i'.toInt.toNat = i.toInt.toNat + 1 := by omega
  have e2 : ((a.toInt.toNat : Nat) : Int) = a.toInt := Int.toNat_of_nonneg ha.1
  have e3 : z.toInt = ((a.toInt.toNat ^ i'.toInt.toNat : Nat) : Int) := by rw [e, Nat.pow_succ, Int.natCast_mul, ← h, e2, hz]
  have q := pw_17 (v := a.toInt.toNat) (k := i'.toInt.toNat) (by omega) (by omega)
  exact ⟨e3, by omega, by omega⟩
theorem mo_step {z' n : Int32} {a r : Int64} (hz : z'.toInt = a.toInt) (hr : r.toInt = ((a.toInt.toNat ^ n.toInt.toNat : Nat) : Int)) (hle : r.toInt ≤ 20000) : z'.toInt.toNat ^ n.toInt.toNat ≤ 20000 := by
  rw [hz]
  omega
theorem hd_of {f f1 f2 f3 : Nat → Int32} {n b g v : Int32} {a r : Int64} (e1 : upd f (0 : Int32).toNatClampNeg n = f1) (e2 : upd f1 (1 : Int32).toNatClampNeg b = f2) (e3 : upd f2 (2 : Int32).toNatClampNeg v = f3) (hn : 1 ≤ n.toInt ∧ n.toInt ≤ 12) (hb : 2 ≤ b.toInt ∧ b.toInt ≤ g.toInt) (hg : g.toInt ≤ 16) (hp : g.toInt.toNat ^ n.toInt.toNat ≤ 20000) (ha : a.toInt = b.toInt) (hr : r.toInt = ((a.toInt.toNat ^ n.toInt.toNat : Nat) : Int)) (hv : v = r.toInt32) : HDR f3 := by
  have z0 : (0 : Int32).toNatClampNeg = 0 := by decide
  have z1 : (1 : Int32).toNatClampNeg = 1 := by decide
  have z2 : (2 : Int32).toNatClampNeg = 2 := by decide
  rw [z0] at e1
  rw [z1] at e2
  rw [z2] at e3
  have q0 : f3 0 = n := by rw [← e3, pk_un (by omega), ← e2, pk_un (by omega), ← e1, pk_us]
  have q1 : f3 1 = b := by rw [← e3, pk_un (by omega), ← e2, pk_us]
  have q2 : f3 2 = v := by rw [← e3, pk_us]
  rw [ha] at hr
  have hle : b.toInt.toNat ^ n.toInt.toNat ≤ 20000 := Nat.le_trans (Nat.pow_le_pow_left (by omega) _) hp
  have hv2 : v.toInt = r.toInt := (ti_l2i (a := 0) (b := 20000) hv (by omega) (by decide)).1
  unfold HDR
  rw [q0, q1, q2]
  exact ⟨by omega, by omega⟩
theorem ke_3 {f f1 f2 f3 : Nat → Int32} {n b v : Int32} (e1 : upd f (0 : Int32).toNatClampNeg n = f1) (e2 : upd f1 (1 : Int32).toNatClampNeg b = f2) (e3 : f3 = f2 ∨ upd f2 (2 : Int32).toNatClampNeg v = f3) : ∀ j : Nat, 3 ≤ j → f3 j = f j := fun j hj => by
  have z0 : (0 : Int32).toNatClampNeg = 0 := by decide
  have z1 : (1 : Int32).toNatClampNeg = 1 := by decide
  have z2 : (2 : Int32).toNatClampNeg = 2 := by decide
  rw [z0] at e1
  rw [z1] at e2
  rw [z2] at e3
  have q : f2 j = f j := by rw [← e2, pk_un (by omega), ← e1, pk_un (by omega)]
  rcases e3 with e | e
  · rw [e, q]
  · rw [← e, pk_un (by omega), q]
theorem us_0 {f g : Nat → Int32} {v z : Int32} (e : upd f (0 : Int32).toNatClampNeg v = g) (hz : z = g (0 : Int32).toNatClampNeg) : z = v := by rw [hz, ← e, pk_us]
theorem us_1 {f g : Nat → Int32} {v z : Int32} (e : upd f (1 : Int32).toNatClampNeg v = g) (hz : z = g (1 : Int32).toNatClampNeg) : z = v := by rw [hz, ← e, pk_us]
theorem us_01 {f g h : Nat → Int32} {v w z : Int32} (e : upd f (0 : Int32).toNatClampNeg v = g) (e2 : upd g (1 : Int32).toNatClampNeg w = h) (hz : z = h (0 : Int32).toNatClampNeg) : z = v := by rw [hz, ← e2, pk_un (by decide), ← e, pk_us]
theorem bi_fin {f g : Nat → Int32} {p v z : Int32} (h : HDR f ∧ (∃ d, PV f d) ∧ 2 * (kK f).toInt ≤ p.toInt) (hp : p.toInt ≤ 1200) (hz : z = f (3 : Int32).toNatClampNeg) (hv : v.toInt = z.toInt + 1) (e : upd f (3 : Int32).toNatClampNeg v = g) : BI g p ∧ HDR g := by
  refine ⟨BI.fin h hp hz hv e, ?_⟩
  have z3 : (3 : Int32).toNatClampNeg = 3 := by decide
  rw [z3] at e
  exact HDR.congr (by rw [← e, pk_un (by omega)]) (by rw [← e, pk_un (by omega)]) (by rw [← e, pk_un (by omega)]) h.1
theorem adv3 {f : Nat → Int32} {p v z : Int32} (h : HDR f ∧ (∃ d, PV f d) ∧ 2 * (kK f).toInt ≤ p.toInt) (hz : z = f (3 : Int32).toNatClampNeg) (ev : v = z + 1) : v.toInt = z.toInt + 1 := by
  obtain ⟨-, ⟨d, h1, -⟩, -⟩ := h
  have e : z.toInt = (f 3).toInt := by rw [hz]; rfl
  exact (ti_add (lo := 1) (hi := 9) ev rfl (by decide : (1 : Int32).toInt = 1) (show (0 : Int) ≤ z.toInt ∧ z.toInt ≤ 8 from by omega) (by decide : (1 : Int) ≤ (1 : Int32).toInt ∧ (1 : Int32).toInt ≤ 1) (by decide)).1
