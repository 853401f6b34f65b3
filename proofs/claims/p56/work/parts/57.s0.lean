theorem updL1 {f : Nat → Int64} {i : Nat} {x : Int64} (hi : i < 2 ^ 31) (h : ∀ j, j < i → f j = x) : ∀ j, j < i + 1 → vp_updL f (nI i).toNatClampNeg x j = x := by
  intro j hj
  rw [nI_clamp hi]
  by_cases e : j = i
  · rw [e, pk_uLs]
  · rw [pk_uLn e]; exact h j (by omega)
def sgl (f : Nat → Int64) (s lo : Nat) : Nat → Int64
  | 0 => 0
  | k + 1 => sgl f s lo k + f (s - (lo + k))
def cv (lo hi s : Nat) : Nat := min (hi + 1) (s + 1) - lo
def TT (lo hi : Nat) : Nat → Nat → Int64
  | 0, s => if s = 0 then 1 else 0
  | n + 1, s => sgl (TT lo hi n) s lo (cv lo hi s)
def pf (f : Nat → Int64) : Nat → Int64
  | 0 => f 0
  | k + 1 => f (k + 1) + pf f k
theorem pf_z (f : Nat → Int64) : ∀ j, j < 1 → f j = pf f j := fun j h => by
  cases j with
  | zero => rfl
  | succ k => exact absurd h (by omega)
theorem sgl_cong {f g : Nat → Int64} {s lo : Nat} (h : ∀ j, j ≤ s → f j = g j) : ∀ k, sgl f s lo k = sgl g s lo k
  | 0 => rfl
  | k + 1 => by
    show sgl f s lo k + f (s - (lo + k)) = sgl g s lo k + g (s - (lo + k))
    rw [sgl_cong h k, h _ (Nat.sub_le _ _)]
theorem sgl_zero {f : Nat → Int64} {s lo : Nat} : ∀ k, (∀ v, v < k → f (s - (lo + v)) = 0) → sgl f s lo k = 0
  | 0, _ => rfl
  | k + 1, h => by
    show sgl f s lo k + f (s - (lo + k)) = 0
    rw [sgl_zero k (fun v hv => h v (by omega)), h k (by omega)]; rfl
theorem pf_sg (f : Nat → Int64) (s : Nat) : ∀ k, k ≤ s → pf f s = sgl f s 0 k + pf f (s - k)
  | 0, _ => by
    show pf f s = 0 + pf f (s - 0)
    rw [Int64.zero_add]; rfl
  | k + 1, h => by
    rw [pf_sg f s k (by omega)]
    show _ = sgl f s 0 k + f (s - (0 + k)) + pf f (s - (k + 1))
    have e : s - k = s - (k + 1) + 1 := by omega
    rw [e, Int64.add_assoc, Nat.zero_add, e]; rfl
theorem pf_all (f : Nat → Int64) (s : Nat) : pf f s = sgl f s 0 (s + 1) := by
  rw [pf_sg f s s (Nat.le_refl s)]
  show _ = sgl f s 0 s + f (s - (0 + s))
  rw [Nat.zero_add, Nat.sub_self]; rfl
theorem pf_sub (f : Nat → Int64) {s b : Nat} (h : b ≤ s) : pf f s - pf f (s - b) = sgl f s 0 b := by
  rw [pf_sg f s b h, Int64.add_sub_cancel]
theorem adA {f f1 : Nat → Int64} {i : Nat} {z z1 z2 : Int64} (hi : 1 ≤ i) (h181 : i < 181) (ez : z = z1 + z2) (e1 : z1 = f1 i) (e2 : z2 = f1 (i - 1)) (hA : ∀ j, j < i → f1 j = pf f j) (hB : ∀ j, i ≤ j → j < 181 → f1 j = f j) : ∀ j, j < i + 1 → vp_updL f1 i z j = pf f j := by
  intro j hj
  by_cases e : j = i
  · subst e
    rw [pk_uLs, ez, e1, e2, hB j (Nat.le_refl j) h181, hA (j - 1) (by omega)]
    obtain ⟨k, rfl⟩ : ∃ k, j = k + 1 := ⟨j - 1, by omega⟩
    rfl
  · rw [pk_uLn e]; exact hA j (by omega)
theorem adB {f f1 : Nat → Int64} {i : Nat} {z : Int64} (hB : ∀ j, i ≤ j → j < 181 → f1 j = f j) : ∀ j, i + 1 ≤ j → j < 181 → vp_updL f1 i z j = f j := by
  intro j h1 h2
  rw [pk_uLn (by omega)]; exact hB j (by omega) h2
theorem adC {f g1 : Nat → Int64} {i : Nat} {z : Int64} (hC : ∀ j, j ≤ i → g1 j = pf f j) (h : 1 ≤ i) : ∀ j, j ≤ i - 1 → vp_updL g1 i z j = pf f j := by
  intro j h1
  rw [pk_uLn (by omega)]; exact hC j (by omega)
theorem adD {f g1 : Nat → Int64} {i b : Nat} {z z1 z2 : Int64} (hb : 1 ≤ b) (hi : b ≤ i) (ez : z = z1 - z2) (e1 : z1 = g1 i) (e2 : z2 = g1 (i - b)) (hC : ∀ j, j ≤ i → g1 j = pf f j) (hD : ∀ j, i < j → j < 181 → g1 j = pf f j - pf f (j - b)) : ∀ j, i - 1 < j → j < 181 → vp_updL g1 i z j = pf f j - pf f (j - b) := by
  intro j h1 h2
  by_cases e : j = i
  · subst e
    rw [pk_uLs, ez, e1, e2, hC j (Nat.le_refl j), hC (j - b) (by omega)]
  · rw [pk_uLn e]; exact hD j (by omega) h2
theorem adF {f g1 : Nat → Int64} {i b : Nat} (hb : 1 ≤ b) (hi : i + 1 = b) (hC : ∀ j, j ≤ i → g1 j = pf f j) (hD : ∀ j, i < j → j < 181 → g1 j = pf f j - pf f (j - b)) : ∀ j, j < 181 → g1 j = sgl f j 0 (cv 0 (b - 1) j) := by
  intro j hj
  by_cases e : j ≤ i
  · rw [hC j e, pf_all, show cv 0 (b - 1) j = j + 1 by unfold cv; omega]
  · rw [hD j (by omega) hj, pf_sub f (by omega), show cv 0 (b - 1) j = b by unfold cv; omega]
def wt (f : Nat → Int64) (a : Int32) : Int64 := if wi a 0 180 = 0 then 0 else f a.toNatClampNeg
theorem wt_a {f : Nat → Int64} {a : Int32} (h : a < 0) : (0 : Int64) = wt f a := (if_pos (wi_a h).symm).symm
theorem wt_b {f : Nat → Int64} {a : Int32} (h : 180 < a) : (0 : Int64) = wt f a := (if_pos (wi_b h).symm).symm
theorem wt_c {f : Nat → Int64} {a : Int32} (h1 : ¬ a < 0) (h2 : ¬ 180 < a) : f a.toNatClampNeg = wt f a := by
  have e : wi a 0 180 = 1 := (wi_1 h1 h2).symm
  unfold wt; rw [if_neg (by rw [e]; decide)]
theorem wt_in {a : Int32} (h1 : ¬ a < 0) (h2 : ¬ 180 < a) : vp_in a 181 := by
  obtain ⟨j, hj, rfl⟩ := nI_of2 (n := 180) (M := 180) (by decide) h1 (fa_nlt2 h2)
  exact vp_in_nI (by omega) (by decide)
theorem wt_nat {f g : Nat → Int64} {q : Nat} (hq : q ≤ 180) (h : ∀ j, j < 181 → f j = g j) : wt f (nI q) = g q := by
  have e : ¬ wi (nI q) 0 180 = 0 := by
    have e1 : wi (nI q) 0 180 = 1 := (wi_1 (nI_pos (by omega)) (nI_nlt (a := 180) (b := q) hq (by decide))).symm
    rw [e1]; decide
  unfold wt; rw [if_neg e, nI_clamp (by omega)]; exact h q (by omega)
theorem T0 {f : Nat → Int64} {h : Nat} (hf : ∀ j, j < 181 → f j = 0) : ∀ j, j < 181 → vp_updL f (0 : Int32).toNatClampNeg 1 j = TT 0 h 0 j := by
  intro j hj
  rw [show (0 : Int32).toNatClampNeg = 0 by decide]
  by_cases e : j = 0
  · subst e; rw [pk_uLs]; rfl
  · rw [pk_uLn e, hf j hj]; simp [TT, e]
def il (a b : Int32) : Int32 := if wi a 1 12 = 0 ∨ wi b 2 16 = 0 then 0 else 1
theorem il_a {a b : Int32} (h : wi a 1 12 = 0) : (0 : Int32) = il a b := (if_pos (Or.inl h)).symm
theorem il_b {a b : Int32} (h : wi b 2 16 = 0) : (0 : Int32) = il a b := (if_pos (Or.inr h)).symm
theorem il_1 {a b : Int32} (h1 : ¬ wi a 1 12 = 0) (h2 : ¬ wi b 2 16 = 0) : (1 : Int32) = il a b := (if_neg (fun q => q.elim h1 h2)).symm
theorem il_yes {a b : Int32} (h : ¬ il a b = 0) : ∃ n b' : Nat, 1 ≤ n ∧ n ≤ 12 ∧ 2 ≤ b' ∧ b' ≤ 16 ∧ a = nI n ∧ b = nI b' := by
  by_cases q1 : wi a 1 12 = 0
  · exact absurd (il_a q1).symm h
  · by_cases q2 : wi b 2 16 = 0
    · exact absurd (il_b q2).symm h
    · obtain ⟨n, h1, h2, rfl⟩ := wi_rg (k := 12) (by decide) (by decide) q1
      have q := wi_yes q2
      have q0 := Int32.le_iff_toInt_le.mp q.1
      have z2 : (2 : Int32).toInt = 2 := by decide
      have z0 : (0 : Int32).toInt = 0 := by decide
      have hn : ¬ b < 0 := fun c => by have := Int32.lt_iff_toInt_lt.mp c; omega
      obtain ⟨j, hj, rfl⟩ := nI_of2 (n := 16) (M := 16) (by decide) hn q.2
      refine ⟨n, j, h1, h2, ?_, hj, rfl, rfl⟩
      have := nI_toInt (n := j) (by omega)
      omega
theorem wi_180 {a : Int32} (h : ¬ wi a 0 180 = 0) : ∃ q : Nat, q ≤ 180 ∧ a = nI q := wi_nat (by decide) h
theorem wi_200 {a : Int32} (h : ¬ wi a 0 200 = 0) : ∃ q : Nat, q ≤ 200 ∧ a = nI q := wi_nat (by decide) h
def ofv (a b c : Int32) : Int64 := if il a b = 0 ∨ wi c 0 180 = 0 then -2 else TT 0 (b.toNatClampNeg - 1) a.toNatClampNeg c.toNatClampNeg
theorem of_a {a b c : Int32} (h : il a b = 0) : (-2 : Int64) = ofv a b c := (if_pos (Or.inl h)).symm
theorem of_b {a b c : Int32} (h : wi c 0 180 = 0) : (-2 : Int64) = ofv a b c := (if_pos (Or.inr h)).symm
theorem of_c {n b q : Nat} {r : Int64} (h1 : ¬ il (nI n) (nI b) = 0) (h2 : ¬ wi (nI q) 0 180 = 0) (hn : n ≤ 12) (hb : b ≤ 16) (hq : q ≤ 180) (h : r = TT 0 (b - 1) n q) : r = ofv (nI n) (nI b) (nI q) := by
  unfold ofv; rw [if_neg (fun c => c.elim h1 h2), nI_clamp (by omega), nI_clamp (by omega), nI_clamp (by omega)]; exact h
def hs (g : Nat → Int64) : Nat → Int64
  | 0 => 0
  | k + 1 => hs g k + g k * g k
def hvv (a b : Int32) : Int64 := if il a b = 0 ∨ ¬ a.toNatClampNeg % 2 = 0 then -2 else hs (TT 0 (b.toNatClampNeg - 1) (a.toNatClampNeg / 2)) 181
theorem hv_a {a b : Int32} (h : il a b = 0) : (-2 : Int64) = hvv a b := (if_pos (Or.inl h)).symm
theorem hv_b {n : Nat} {b : Int32} (hn : n ≤ 12) (h : ¬ n % 2 = 0) : (-2 : Int64) = hvv (nI n) b := (if_pos (Or.inr (by rw [nI_clamp (by omega)]; exact h))).symm
theorem hv_c {n b : Nat} {r : Int64} (h1 : ¬ il (nI n) (nI b) = 0) (hn : n ≤ 12) (hb : b ≤ 16) (h2 : n % 2 = 0) (h : r = hs (TT 0 (b - 1) (n / 2)) 181) : r = hvv (nI n) (nI b) := by
  unfold hvv; rw [nI_clamp (n := n) (by omega), nI_clamp (n := b) (by omega), if_neg (fun c => c.elim h1 (fun q => q h2))]; exact h
def mdv (a b : Int32) : Int64 := if il a b = 0 then -2 else TT 0 (b.toNatClampNeg - 1) a.toNatClampNeg ((b.toNatClampNeg - 1) * a.toNatClampNeg / 2)
theorem md_a {a b : Int32} (h : il a b = 0) : (-2 : Int64) = mdv a b := (if_pos h).symm
theorem md_c {n b : Nat} {r : Int64} (h1 : ¬ il (nI n) (nI b) = 0) (hn : n ≤ 12) (hb : b ≤ 16) (h : r = TT 0 (b - 1) n ((b - 1) * n / 2)) : r = mdv (nI n) (nI b) := by
  unfold mdv; rw [if_neg h1, nI_clamp (n := n) (by omega), nI_clamp (n := b) (by omega)]; exact h
def mbs (g : Nat → Int64) : Nat → Nat
  | 0 => 0
  | k + 1 => if g (mbs g k) < g (k + 1) then k + 1 else mbs g k
theorem mbs_le (g : Nat → Int64) : ∀ k, mbs g k ≤ k
  | 0 => Nat.le_refl 0
  | k + 1 => by
    unfold mbs; split
    · exact Nat.le_refl _
    · exact Nat.le_succ_of_le (mbs_le g k)
def msv (a b : Int32) : Int32 := if il a b = 0 then -2 else nI (mbs (TT 0 (b.toNatClampNeg - 1) a.toNatClampNeg) 180)
theorem ms_a {a b : Int32} (h : il a b = 0) : (-2 : Int32) = msv a b := (if_pos h).symm
theorem ms_c {n b : Nat} {q : Nat} (h1 : ¬ il (nI n) (nI b) = 0) (hn : n ≤ 12) (hb : b ≤ 16) (h : q = mbs (TT 0 (b - 1) n) 180) : nI q = msv (nI n) (nI b) := by
  unfold msv; rw [if_neg h1, nI_clamp (n := n) (by omega), nI_clamp (n := b) (by omega), h]
def dcv (a b c : Int32) : Int64 := if il a b = 0 ∨ wi c 0 200 = 0 then -2 else TT 1 b.toNatClampNeg a.toNatClampNeg c.toNatClampNeg
theorem dc_a {a b c : Int32} (h : il a b = 0) : (-2 : Int64) = dcv a b c := (if_pos (Or.inl h)).symm
theorem dc_b {a b c : Int32} (h : wi c 0 200 = 0) : (-2 : Int64) = dcv a b c := (if_pos (Or.inr h)).symm
theorem dc_c {n b q : Nat} {r : Int64} (h1 : ¬ il (nI n) (nI b) = 0) (h2 : ¬ wi (nI q) 0 200 = 0) (hn : n ≤ 12) (hb : b ≤ 16) (hq : q ≤ 200) (h : r = TT 1 b n q) : r = dcv (nI n) (nI b) (nI q) := by
  unfold dcv; rw [if_neg (fun c => c.elim h1 h2), nI_clamp (by omega), nI_clamp (by omega), nI_clamp (by omega)]; exact h
theorem TT_out (h : Nat) : ∀ n s, n * h < s → TT 0 h n s = 0
  | 0, s, q => by
    have e : ¬ s = 0 := by omega
    simp [TT, e]
  | n + 1, s, q => by
    show sgl (TT 0 h n) s 0 (cv 0 h s) = 0
    refine sgl_zero _ (fun v hv => TT_out h n _ ?_)
    have e : (n + 1) * h = n * h + h := Nat.succ_mul n h
    have e2 : v < h + 1 := by unfold cv at hv; omega
    omega
theorem TT_z (h : Nat) : ∀ n, TT 0 h n 0 = 1
  | 0 => rfl
  | n + 1 => by
    show sgl (TT 0 h n) 0 0 (cv 0 h 0) = 1
    rw [show cv 0 h 0 = 1 by unfold cv; omega]
    show (0 : Int64) + TT 0 h n (0 - (0 + 0)) = 1
    rw [show 0 - (0 + 0) = 0 from rfl, TT_z h n]; rfl
theorem hs_out {g : Nat → Int64} {a : Nat} : ∀ k, (∀ s, a ≤ s → g s = 0) → hs g (a + k) = hs g a
  | 0, _ => rfl
  | k + 1, h => by
    show hs g (a + k) + g (a + k) * g (a + k) = hs g a
    rw [hs_out k h, h (a + k) (by omega), Int64.mul_zero, Int64.add_zero]
theorem mbs_ge (g : Nat → Int64) : ∀ k, g 0 ≤ g (mbs g k)
  | 0 => Int64.le_refl _
  | k + 1 => by
    unfold mbs; split
    · rename_i q; exact Int64.le_trans (mbs_ge g k) (Int64.le_of_lt q)
    · exact mbs_ge g k
theorem mbs_out {g : Nat → Int64} {a : Nat} (h0 : g 0 = 1) : ∀ k, (∀ s, a < s → g s = 0) → mbs g (a + k) = mbs g a
  | 0, _ => rfl
  | k + 1, h => by
    show (if g (mbs g (a + k)) < g (a + k + 1) then a + k + 1 else mbs g (a + k)) = mbs g a
    rw [h (a + k + 1) (by omega), if_neg ?_, mbs_out h0 k h]
    intro q
    have q2 := mbs_ge g (a + k)
    rw [h0] at q2
    exact absurd (Int64.lt_of_le_of_lt q2 q) (by decide)
theorem mid_le {n b : Nat} (hn : n ≤ 12) (hb : b ≤ 16) : (b - 1) * n / 2 ≤ 180 := by
  have h : (b - 1) * n ≤ 15 * 12 := Nat.mul_le_mul (by omega) hn
  omega
theorem mid_lt {n b : Nat} (hn : n ≤ 12) (hb : b ≤ 16) : (b - 1) * n < 2 ^ 31 := by
  have h : (b - 1) * n ≤ 15 * 12 := Nat.mul_le_mul (by omega) hn
  omega
theorem mbs_1 {g : Nat → Int64} {k : Nat} (h : g (mbs g k) < g (k + 1)) : mbs g (k + 1) = k + 1 := by
  show (if g (mbs g k) < g (k + 1) then k + 1 else mbs g k) = k + 1
  rw [if_pos h]
theorem mbs_0 {g : Nat → Int64} {k : Nat} (h : ¬ g (mbs g k) < g (k + 1)) : mbs g (k + 1) = mbs g k := by
  show (if g (mbs g k) < g (k + 1) then k + 1 else mbs g k) = mbs g k
  rw [if_neg h]
theorem fb_gt {x y : Int64} (h : ¬ x ≤ y) : y < x := by
  rw [Int64.lt_iff_toInt_lt]; rw [Int64.le_iff_toInt_le] at h; omega
theorem fb_not2 {x y : Int64} (h : x ≤ y) : ¬ y < x := by
  rw [Int64.lt_iff_toInt_lt]; rw [Int64.le_iff_toInt_le] at h; omega
theorem sgl_sh {F G : Nat → Int64} {s lo s' lo' : Nat} : ∀ k, (∀ v, v < k → F (s - (lo + v)) = G (s' - (lo' + v))) → sgl F s lo k = sgl G s' lo' k
  | 0, _ => rfl
  | k + 1, h => by
    show sgl F s lo k + F (s - (lo + k)) = sgl G s' lo' k + G (s' - (lo' + k))
    rw [sgl_sh k (fun v hv => h v (by omega)), h k (by omega)]
theorem sgl_ext {F : Nat → Int64} {s lo k : Nat} : ∀ d, (∀ v, k ≤ v → v < k + d → F (s - (lo + v)) = 0) → sgl F s lo (k + d) = sgl F s lo k
  | 0, _ => rfl
  | d + 1, h => by
    show sgl F s lo (k + d) + F (s - (lo + (k + d))) = sgl F s lo k
    rw [sgl_ext d (fun v h1 h2 => h v h1 (by omega)), h (k + d) (by omega) (by omega), Int64.add_zero]
theorem TT_1 {f : Nat} (hf : 1 ≤ f) : ∀ n s, TT 1 f n s = if s < n then 0 else TT 0 (f - 1) n (s - n)
  | 0, s => by simp [TT]
  | n + 1, s => by
    show sgl (TT 1 f n) s 1 (cv 1 f s) = _
    by_cases h : s < n + 1
    · rw [if_pos h]
      refine sgl_zero _ (fun v hv => ?_)
      rw [TT_1 hf n, if_pos (by unfold cv at hv; omega)]
    · rw [if_neg h]
      show _ = sgl (TT 0 (f - 1) n) (s - (n + 1)) 0 (cv 0 (f - 1) (s - (n + 1)))
      obtain ⟨d, hd⟩ : ∃ d, cv 1 f s = cv 0 (f - 1) (s - (n + 1)) + d := ⟨cv 1 f s - cv 0 (f - 1) (s - (n + 1)), by unfold cv; omega⟩
      rw [hd, sgl_ext d (fun v h1 h2 => by
        have h3 : v < cv 1 f s := by omega
        rw [TT_1 hf n, if_pos (by unfold cv at h1 h3; omega)])]
      refine sgl_sh _ (fun v hv => ?_)
      rw [TT_1 hf n, if_neg (by unfold cv at hv; omega)]
      exact congrArg _ (by omega)
theorem dc_x {f : Nat → Int64} {n b q : Nat} (hn : n ≤ 12) (hb1 : 2 ≤ b) (hb : b ≤ 16) (hq : q ≤ 200) (h : ∀ j, j < 181 → f j = TT 0 (b - 1) n j) (hle : n ≤ q) : wt f (nI (q - n)) = TT 1 b n q := by
  rw [TT_1 (by omega), if_neg (by omega)]
  by_cases c : q - n ≤ 180
  · exact wt_nat c h
  · have e : n * (b - 1) ≤ 12 * 15 := Nat.mul_le_mul hn (by omega)
    rw [TT_out _ _ _ (show n * (b - 1) < q - n by omega)]
    exact (wt_b (nI_lt (a := 180) (b := q - n) (by omega) (by omega))).symm
theorem dc_y {f : Nat → Int64} {n b q : Nat} (hn : n ≤ 12) (hb1 : 2 ≤ b) (hle : ¬ n ≤ q) : wt f (nI q - nI n) = TT 1 b n q := by
  rw [TT_1 (by omega), if_pos (by omega)]
  exact (wt_a (pk_sneg (by omega) (by omega))).symm
theorem updLn {f : Nat → Int64} {T : Nat → Int64} {i : Nat} {x : Int64} (hx : x = T i) (h : ∀ j, j < i → f j = T j) : ∀ j, j < i + 1 → vp_updL f i x j = T j := by
  intro j hj
  by_cases e : j = i
  · rw [e, pk_uLs]; exact hx
  · rw [pk_uLn e]; exact h j (by omega)
theorem updLk {f : Nat → Int64} {T : Nat → Int64} {i : Nat} {x : Int64} (h : ∀ j, j < i → f j = T j) : ∀ j, j < i → vp_updL f i x j = T j := by
  intro j hj
  rw [pk_uLn (by omega)]; exact h j hj
theorem f3_s {g T : Nat → Int64} {q : Nat} (h : g q = T q) (hk : ∀ j, j < q → g j = T j) : ∀ j, j < q + 1 → g j = T j := by
  intro j hj
  by_cases e : j = q
  · rw [e]; exact h
  · exact hk j (by omega)
theorem hv_z {n b s : Nat} (hn : n ≤ 12) (hb : b ≤ 16) (h : 181 ≤ s) : n / 2 * (b - 1) < s := by
  have e : n / 2 * (b - 1) ≤ 6 * 15 := Nat.mul_le_mul (by omega) (by omega)
  omega
theorem ms_z {n b s : Nat} (hn : n ≤ 12) (hb : b ≤ 16) (h : 180 < s) : n * (b - 1) < s := by
  have e : n * (b - 1) ≤ 12 * 15 := Nat.mul_le_mul hn (by omega)
  omega
def quJ7_fill_181 : List Cond := List.cons (.code yJ7_fill_d0a16 cJ7_fill_d0a16 5 none) ([] : List Cond)
set_option maxHeartbeats 4000000 in
set_option maxRecDepth 100000 in
theorem qkJ7_fill_181 (l : Launch) (dC : Nat → ClassId) (dI : Nat → Nat → Nat) (ar : Nat) (cJ : ClassId) (f : Nat → Int64) (v1 : Int64) (sz : Nat) : Met l yJ7_fill_d0a16 quJ7_fill_181 ({ frames := 0, cells := 0, slots := 0, locals := 0 }) (va_Pc [.ref ar, .long v1] (hw (dC, dI) vwCl [(ar, .inl (cJ, 181, .inr (.inl f)))] [(cJ, .long)] sz)) (va_Qv (fun (_ : Unit) => True) (fun (_ : Unit) t => ∃ (f2 : Nat → Int64), (∀ j, j < 181 → f2 j = v1) ∧ va_P (dC, dI) vwCl [(ar, .inl (cJ, 181, .inr (.inl f2)))] t.heap ∧ va_K (dC, dI) vwCl [(cJ, .long)] t ∧ va_D (va_A [(ar, .inl (cJ, 181, .inr (.inl f)))] sz) [(ar, .inl (cJ, 181, .inr (.inl f2)))]) (va_A [(ar, .inl (cJ, 181, .inr (.inl f)))] sz)) 0 0 (va_A [(ar, .inl (cJ, 181, .inr (.inl f)))] sz) := by
  refine Met.ofW (cc := cJ7_fill_d0a16) (maxL := 5) (ret := none) (by decide) rfl ?_
  intro p e s m args below meth c s₁ B hml hv
  obtain ⟨rfl, hsz, hP, hK, hD0, hN⟩ := hv
  have hx := B.exec
  have hb := B.bytes
  have hr := B.returns
  have hts := atoms_spec (ws := quJ7_fill_181) B.pre
  have hown : s.vm.findClass RJ7 = some m.cls := findClass_of_methodNamed B.named
  have hlocks := B.notSynchronized
  subst hsz
  have hD := hD0.self (sz := s.heap.size)
  generalize hAe : va_A [(ar, .inl (cJ, 181, .inr (.inl f)))] s.heap.size = A at hD ⊢
  have hA : ∀ q : Nat, s.heap.size ≤ q → A q := fun q h => by rw [← hAe]; exact Or.inr h
  have hS : va_S A s.heap s.heap [] := va_S.rf
  have hP : va_P (dC, dI) vwCl [(ar, .inl (cJ, 181, .inr (.inl f)))] s.heap := hP
  have hl := lv_entry ([.ref ar, .long v1]) (n := 5) (Nat.le_of_ble_eq_true rfl)
  rw [lg_entry_eq]
  generalize (lg_sl ([.ref ar, .long v1]) ++ List.replicate (5 - (lg_sl ([.ref ar, .long v1])).length) Slot.unset).toArray = ls at hl ⊢
  have hl : lv_has ls 5 [(0, .ref ar), (1, .long v1)] := hl
  refine lv_iconst (v := 0) hx hb dJ7_fill_d0a16_0 (by decide) ?_
  refine lv_istore_n (lv' := [(3, .int 0), (0, .ref ar), (1, .long v1)]) hx hb dJ7_fill_d0a16_1 rfl hl (by decide) rfl (fun ls hl => ?_)
  refine lv_aload_n hx hb dJ7_fill_d0a16_2 rfl (lv_at hl 1 rfl) ?_
  refine va_alen (v := 181) hx hb hK hP 0 0 rfl rfl (by rfl) dJ7_fill_d0a16_3 ?_
  refine lv_istore (lv' := [(4, .int 181), (3, .int 0), (0, .ref ar), (1, .long v1)]) hx hb dJ7_fill_d0a16_4 hl (by decide) rfl (fun ls hl => ?_)
  refine loopW (σ := Nat × (Nat → Int64)) (fun v => 181 - v.1) (fun v H locs ls => (v.1 ≤ 181) ∧ (∀ j, j < v.1 → v.2 j = v1) ∧ va_P (dC, dI) vwCl [(ar, .inl (cJ, 181, .inr (.inl v.2)))] H ∧ va_D A [(ar, .inl (cJ, 181, .inr (.inl v.2)))] ∧ va_S A s.heap H locs ∧ lv_has ls 5 [(4, .int 181), (3, .int (nI v.1)), (0, .ref ar), (1, .long v1)]) (fun v H locs ls hI ih_6 => ?_) (0, f) ⟨(show 0 ≤ 181 from Nat.zero_le _), (show ∀ j, j < 0 → f j = v1 from (fun j hj => absurd hj (Nat.not_lt_zero j))), hP, hD, hS, hl⟩
  obtain ⟨i, f1⟩ := v
  obtain ⟨hi, hfi, hP, hD, hS, hl⟩ := hI
  have hi : i ≤ 181 := hi
  have hfi : ∀ j, j < i → f1 j = v1 := hfi
  have hP : va_P (dC, dI) vwCl [(ar, .inl (cJ, 181, .inr (.inl f1)))] H := hP
  have hD : va_D A [(ar, .inl (cJ, 181, .inr (.inl f1)))] := hD
  have hl : lv_has ls 5 [(4, .int 181), (3, .int (nI i)), (0, .ref ar), (1, .long v1)] := hl
  refine lv_iload_n hx hb dJ7_fill_d0a16_6 rfl (lv_at hl 1 rfl) ?_
  refine lv_iload hx hb dJ7_fill_d0a16_7 (lv_at hl 0 rfl) ?_
  refine lv_icmp_ge (tgt := 22) hx hb dJ7_fill_d0a16_9 (by decide) (fun c_1 => ?_) (fun c_1 => ?_)
  ·
    have hge : 181 ≤ i := (nI_leI (a := 181) (b := i) (by decide) (by omega)).mp c_1
    have hP9 := hP.sub (ws' := [(ar, .inl (cJ, 181, .inr (.inl f1)))]) [0] rfl
    have hD9 := hD.sub (ws' := [(ar, .inl (cJ, 181, .inr (.inl f1)))]) [0] (by decide) rfl
    have hK9 := hK.sub (tys' := [(cJ, .long)]) [0] rfl
    exact W.vret hx hb hr (fun t ht hW => ⟨⟨(), rfl, trivial, f1, (fun j hj => hfi j (Nat.lt_of_lt_of_le hj hge)), by rw [ht]; exact hP9, va_K.moved hW.alike hK9, hD9⟩, hS.F ht⟩) hS.2.2 dJ7_fill_d0a16_22
  ·
    have hlt : i < 181 := Nat.lt_of_not_le (fun q => c_1 ((nI_leI (a := 181) (b := i) (by decide) (by omega)).mpr q))
    refine lv_aload_n hx hb dJ7_fill_d0a16_12 rfl (lv_at hl 2 rfl) ?_
    refine lv_iload_n hx hb dJ7_fill_d0a16_13 rfl (lv_at hl 1 rfl) ?_
    refine lv_lload_n hx hb dJ7_fill_d0a16_14 rfl (lv_at hl 3 rfl) ?_
    refine va_last hx hb hK hP hD hS 0 0 rfl rfl (vp_in_nI hlt (by decide)) dJ7_fill_d0a16_15 (fun H locs hP hD hS => ?_)
    have hP : va_P (dC, dI) vwCl [(ar, .inl (cJ, 181, .inr (.inl (vp_updL f1 ((nI i) : Int32).toNatClampNeg v1))))] H := hP
    have hD : va_D A [(ar, .inl (cJ, 181, .inr (.inl (vp_updL f1 ((nI i) : Int32).toNatClampNeg v1))))] := hD
    obtain ⟨z_2, ez_2⟩ : ∃ y : Int32, y = nI i + 1 := ⟨_, rfl⟩
    refine lv_iinc (v := z_2) (lv' := [(3, .int z_2), (4, .int 181), (0, .ref ar), (1, .long v1)]) hx hb dJ7_fill_d0a16_16 hl (k := 1) rfl (by rw [ez_2]; rfl) (by decide) rfl (fun ls hl => ?_)
    refine lv_goto (tgt := 6) hx hb dJ7_fill_d0a16_19 (by decide) ?_
    obtain rfl : z_2 = nI (i + 1) := ez_2.trans (nI_1 i)
    exact ih_6 (i + 1, vp_updL f1 ((nI i) : Int32).toNatClampNeg v1) _ _ _ ⟨(show (i + 1) ≤ 181 from hlt), (show ∀ j, j < (i + 1) → (vp_updL f1 ((nI i) : Int32).toNatClampNeg v1) j = v1 from updL1 (by omega) hfi), hP, hD, hS, lv_sub hl [1, 0, 2, 3] rfl⟩ (show 181 - (i + 1) < 181 - i by omega)
def quX6_addPlace : List Cond := List.cons (.code yX6_addPlace cX6_addPlace 3 none) (HAppend.hAppend ([.fieldLink RX6 9 "LuckyTicket$SumTable" "ways" "[J"] : List Cond) wsX60)
theorem qiX6_addPlace_X6 : ∀ w ∈ wsX60, w ∈ quX6_addPlace := fun _ h => List.mem_cons_of_mem _ (List.mem_append_right _ h)
set_option maxHeartbeats 4000000 in
set_option maxRecDepth 100000 in
theorem qkX6_addPlace (l : Launch) (dC : Nat → ClassId) (dI : Nat → Nat → Nat) (su : Nat) (wa : Nat) (cJ : ClassId) (f : Nat → Int64) (bb : Nat) (sz : Nat) (hb1 : 1 ≤ bb) (hb2 : bb ≤ 16) : Met l yX6_addPlace quX6_addPlace ({ frames := 0, cells := 0, slots := 0, locals := 0 }) (va_Pc [.ref su, .int (nI bb)] (hw (dC, dI) vwCl [(su, .inr (5, [.ref wa])), (wa, .inl (cJ, 181, .inr (.inl f)))] [(cJ, .long)] sz)) (va_Qv (fun (_ : Unit) => True) (fun (_ : Unit) t => ∃ (f2 : Nat → Int64), (∀ j, j < 181 → f2 j = sgl f j 0 (cv 0 (bb - 1) j)) ∧ va_P (dC, dI) vwCl [(su, .inr (5, [.ref wa])), (wa, .inl (cJ, 181, .inr (.inl f2)))] t.heap ∧ va_K (dC, dI) vwCl [(cJ, .long)] t ∧ va_D (va_A [(su, .inr (5, [.ref wa])), (wa, .inl (cJ, 181, .inr (.inl f)))] sz) [(su, .inr (5, [.ref wa])), (wa, .inl (cJ, 181, .inr (.inl f2)))]) (va_A [(su, .inr (5, [.ref wa])), (wa, .inl (cJ, 181, .inr (.inl f)))] sz)) 0 0 (va_A [(su, .inr (5, [.ref wa])), (wa, .inl (cJ, 181, .inr (.inl f)))] sz) := by
  refine Met.ofW (cc := cX6_addPlace) (maxL := 3) (ret := none) (by decide) rfl ?_
  intro p e s m args below meth c s₁ B hml hv
  obtain ⟨rfl, hsz, hP, hK, hD0, hN⟩ := hv
  have hx := B.exec
  have hb := B.bytes
  have hr := B.returns
  have hts := atoms_spec (ws := quX6_addPlace) B.pre
  have hown : s.vm.findClass RX6 = some m.cls := findClass_of_methodNamed B.named
  have hlocks := B.notSynchronized
  subst hsz
  have hD := hD0.self (sz := s.heap.size)
  generalize hAe : va_A [(su, .inr (5, [.ref wa])), (wa, .inl (cJ, 181, .inr (.inl f)))] s.heap.size = A at hD ⊢
  have hA : ∀ q : Nat, s.heap.size ≤ q → A q := fun q h => by rw [← hAe]; exact Or.inr h
  have hS : va_S A s.heap s.heap [] := va_S.rf
  have hP : va_P (dC, dI) vwCl [(su, .inr (5, [.ref wa])), (wa, .inl (cJ, 181, .inr (.inl f)))] s.heap := hP
  have hl := lv_entry ([.ref su, .int (nI bb)]) (n := 3) (Nat.le_of_ble_eq_true rfl)
  rw [lg_entry_eq]
  generalize (lg_sl ([.ref su, .int (nI bb)]) ++ List.replicate (3 - (lg_sl ([.ref su, .int (nI bb)])).length) Slot.unset).toArray = ls at hl ⊢
  have hl : lv_has ls 3 [(0, .ref su), (1, .int (nI bb))] := hl
  refine lv_iconst (v := 1) hx hb dX6_addPlace_0 (by decide) ?_
  refine lv_istore_n (lv' := [(2, .int 1), (0, .ref su), (1, .int (nI bb))]) hx hb dX6_addPlace_1 rfl hl (by decide) rfl (fun ls hl => ?_)
  refine loopW (σ := Nat × (Nat → Int64)) (fun v => 182 - v.1) (fun v H locs ls => (1 ≤ v.1 ∧ v.1 ≤ 181) ∧ (∀ j, j < v.1 → v.2 j = pf f j) ∧ (∀ j, v.1 ≤ j → j < 181 → v.2 j = f j) ∧ va_P (dC, dI) vwCl [(su, .inr (5, [.ref wa])), (wa, .inl (cJ, 181, .inr (.inl v.2)))] H ∧ va_D A [(su, .inr (5, [.ref wa])), (wa, .inl (cJ, 181, .inr (.inl v.2)))] ∧ va_S A s.heap H locs ∧ lv_has ls 3 [(2, .int (nI v.1)), (0, .ref su), (1, .int (nI bb))]) (fun v H locs ls hI ih_2 => ?_) (1, f) ⟨(show 1 ≤ 1 ∧ 1 ≤ 181 from (by omega)), (show ∀ j, j < 1 → f j = pf f j from pf_z f), (show ∀ j, 1 ≤ j → j < 181 → f j = f j from (fun j _ _ => rfl)), hP, hD, hS, hl⟩
  obtain ⟨i, f1⟩ := v
  obtain ⟨hi, hA, hB, hP, hD, hS, hl⟩ := hI
  have hi : 1 ≤ i ∧ i ≤ 181 := hi
  have hA : ∀ j, j < i → f1 j = pf f j := hA
  have hB : ∀ j, i ≤ j → j < 181 → f1 j = f j := hB
  have hP : va_P (dC, dI) vwCl [(su, .inr (5, [.ref wa])), (wa, .inl (cJ, 181, .inr (.inl f1)))] H := hP
  have hD : va_D A [(su, .inr (5, [.ref wa])), (wa, .inl (cJ, 181, .inr (.inl f1)))] := hD
  have hl : lv_has ls 3 [(2, .int (nI i)), (0, .ref su), (1, .int (nI bb))] := hl
  have hi1 := hi.1
  have hi2 := hi.2
  refine lv_iload_n hx hb dX6_addPlace_2 rfl (lv_at hl 0 rfl) ?_
  refine lv_sipush (v := 180) hx hb dX6_addPlace_3 (by decide) ?_
  refine lv_icmp_gt (tgt := 32) hx hb dX6_addPlace_6 (by decide) (fun c_1 => ?_) (fun c_1 => ?_)
  ·
    have nc_1 : 180 < i := (nI_ltI (a := 180) (b := i) (by omega) (by omega)).mp c_1
    refine lv_sipush (v := 180) hx hb dX6_addPlace_32 (by decide) ?_
    refine lv_istore_n (lv' := [(2, .int 180), (0, .ref su), (1, .int (nI bb))]) hx hb dX6_addPlace_35 rfl hl (by decide) rfl (fun ls hl => ?_)
    refine loopW (σ := Nat × (Nat → Int64)) (fun v => v.1 + 1) (fun v H locs ls => (v.1 ≤ 180 ∧ bb ≤ v.1 + 1) ∧ (∀ j, j ≤ v.1 → v.2 j = pf f j) ∧ (∀ j, v.1 < j → j < 181 → v.2 j = pf f j - pf f (j - bb)) ∧ va_P (dC, dI) vwCl [(su, .inr (5, [.ref wa])), (wa, .inl (cJ, 181, .inr (.inl v.2)))] H ∧ va_D A [(su, .inr (5, [.ref wa])), (wa, .inl (cJ, 181, .inr (.inl v.2)))] ∧ va_S A s.heap H locs ∧ lv_has ls 3 [(2, .int (nI v.1)), (0, .ref su), (1, .int (nI bb))]) (fun v H locs ls hI ih_36 => ?_) (180, f1) ⟨(show 180 ≤ 180 ∧ bb ≤ 180 + 1 from (by omega)), (show ∀ j, j ≤ 180 → f1 j = pf f j from (fun j hj => hA j (by omega))), (show ∀ j, 180 < j → j < 181 → f1 j = pf f j - pf f (j - bb) from (fun j h1 h2 => absurd h1 (by omega))), hP, hD, hS, hl⟩
    obtain ⟨k, g1⟩ := v
    obtain ⟨hk, hC, hDD, hP, hD, hS, hl⟩ := hI
    have hk : k ≤ 180 ∧ bb ≤ k + 1 := hk
    have hC : ∀ j, j ≤ k → g1 j = pf f j := hC
    have hDD : ∀ j, k < j → j < 181 → g1 j = pf f j - pf f (j - bb) := hDD
    have hP : va_P (dC, dI) vwCl [(su, .inr (5, [.ref wa])), (wa, .inl (cJ, 181, .inr (.inl g1)))] H := hP
    have hD : va_D A [(su, .inr (5, [.ref wa])), (wa, .inl (cJ, 181, .inr (.inl g1)))] := hD
    have hl : lv_has ls 3 [(2, .int (nI k)), (0, .ref su), (1, .int (nI bb))] := hl
    have hk1 := hk.1
    have hk2 := hk.2
    refine lv_iload_n hx hb dX6_addPlace_36 rfl (lv_at hl 0 rfl) ?_
    refine lv_iload_n hx hb dX6_addPlace_37 rfl (lv_at hl 2 rfl) ?_
    refine lv_icmp_lt (tgt := 68) hx hb dX6_addPlace_38 (by decide) (fun c_2 => ?_) (fun c_2 => ?_)
    ·
      have nc_2 : k < bb := (nI_ltI (a := k) (b := bb) (by omega) (by omega)).mp c_2
      have hP9 := hP.sub (ws' := [(su, .inr (5, [.ref wa])), (wa, .inl (cJ, 181, .inr (.inl g1)))]) [0, 1] rfl
      have hD9 := hD.sub (ws' := [(su, .inr (5, [.ref wa])), (wa, .inl (cJ, 181, .inr (.inl g1)))]) [0, 1] (by decide) rfl
      have hK9 := hK.sub (tys' := [(cJ, .long)]) [0] rfl
      exact W.vret hx hb hr (fun t ht hW => ⟨⟨(), rfl, trivial, g1, adF hb1 (by omega) hC hDD, by rw [ht]; exact hP9, va_K.moved hW.alike hK9, hD9⟩, hS.F ht⟩) hS.2.2 dX6_addPlace_68
    ·
      have nc_2 : ¬ k < bb := fun q9 => c_2 ((nI_ltI (a := k) (b := bb) (by omega) (by omega)).mpr q9)
      refine lv_iload_n hx hb dX6_addPlace_41 rfl (lv_at hl 2 rfl) ?_
      refine lv_if_le (tgt := 68) hx hb dX6_addPlace_42 (by decide) (fun c_3 => absurd (show nI bb ≤ 0 from c_3) (nI_nle (by omega) (by omega))) (fun c_3 => ?_)
      refine lv_aload_n hx hb dX6_addPlace_45 rfl (lv_at hl 1 rfl) ?_
      refine va_get (D := (dC, dI)) (ci := 5) (v := .ref wa) (C := RX6) (T := TX6) (N := 1) hx hb hts qiX6_addPlace_X6 hown hK hP 0 rfl rfl 0 (by decide) (hts (.fieldLink RX6 9 "LuckyTicket$SumTable" "ways" "[J") (List.mem_of_getElem? (i := 1) rfl)) (fun _ h9 => h9) rfl dX6_addPlace_46 ?_
      refine lv_iload_n hx hb dX6_addPlace_49 rfl (lv_at hl 0 rfl) ?_
      refine lv_dup2_11 hx hb dX6_addPlace_50 rfl rfl ?_
      refine va_lald hx hb hK hP 1 0 rfl rfl (vp_in_nI (n := k) (by omega) (by decide)) dX6_addPlace_51 ?_
      refine lv_topl (fun z_4 ez_4 => ?_)
      rw [nI_clamp (n := k) (by omega)] at ez_4
      refine lv_aload_n hx hb dX6_addPlace_52 rfl (lv_at hl 1 rfl) ?_
      refine va_get (D := (dC, dI)) (ci := 5) (v := .ref wa) (C := RX6) (T := TX6) (N := 1) hx hb hts qiX6_addPlace_X6 hown hK hP 0 rfl rfl 0 (by decide) (hts (.fieldLink RX6 9 "LuckyTicket$SumTable" "ways" "[J") (List.mem_of_getElem? (i := 1) rfl)) (fun _ h9 => h9) rfl dX6_addPlace_53 ?_
      refine lv_iload_n hx hb dX6_addPlace_56 rfl (lv_at hl 0 rfl) ?_
      refine lv_iload_n hx hb dX6_addPlace_57 rfl (lv_at hl 2 rfl) ?_
      refine lv_isub hx hb dX6_addPlace_58 ?_
      refine lv_topi (fun z_5 ez_5 => ?_)
      obtain rfl : z_5 = nI (k - bb) := ez_5.trans (pk_sub (a := k) (b := bb) (by omega))
      refine va_lald hx hb hK hP 1 0 rfl rfl (vp_in_nI (n := k - bb) (by omega) (by decide)) dX6_addPlace_59 ?_
      refine lv_topl (fun z_6 ez_6 => ?_)
      rw [nI_clamp (n := k - bb) (by omega)] at ez_6
      refine lv_lsub hx hb dX6_addPlace_60 ?_
      refine lv_topl (fun z_7 ez_7 => ?_)
      refine va_last hx hb hK hP hD hS 1 0 rfl rfl (vp_in_nI (n := k) (by omega) (by decide)) dX6_addPlace_61 (fun H locs hP hD hS => ?_)
      have hP : va_P (dC, dI) vwCl [(su, .inr (5, [.ref wa])), (wa, .inl (cJ, 181, .inr (.inl (vp_updL g1 ((nI k) : Int32).toNatClampNeg z_7))))] H := hP
      have hD : va_D A [(su, .inr (5, [.ref wa])), (wa, .inl (cJ, 181, .inr (.inl (vp_updL g1 ((nI k) : Int32).toNatClampNeg z_7))))] := hD
      rw [nI_clamp (n := k) (by omega)] at hP hD
      have hP : va_P (dC, dI) vwCl [(su, .inr (5, [.ref wa])), (wa, .inl (cJ, 181, .inr (.inl (vp_updL g1 k z_7))))] H := hP
      have hD : va_D A [(su, .inr (5, [.ref wa])), (wa, .inl (cJ, 181, .inr (.inl (vp_updL g1 k z_7))))] := hD
      obtain ⟨z_8, ez_8⟩ : ∃ y : Int32, y = nI k + (-1) := ⟨_, rfl⟩
      refine lv_iinc (v := z_8) (lv' := [(2, .int z_8), (0, .ref su), (1, .int (nI bb))]) hx hb dX6_addPlace_62 hl (k := 0) rfl (by rw [ez_8]; rfl) (by decide) rfl (fun ls hl => ?_)
      obtain rfl : z_8 = nI (k - 1) := ez_8.trans (sb_m1 (p := k) (by omega))
      refine lv_goto (tgt := 36) hx hb dX6_addPlace_65 (by decide) ?_
      exact ih_36 (k - 1, vp_updL g1 k z_7) _ _ _ ⟨(show (k - 1) ≤ 180 ∧ bb ≤ (k - 1) + 1 from (by omega)), (show ∀ j, j ≤ (k - 1) → (vp_updL g1 k z_7) j = pf f j from adC hC (by omega)), (show ∀ j, (k - 1) < j → j < 181 → (vp_updL g1 k z_7) j = pf f j - pf f (j - bb) from adD hb1 (by omega) ez_7 ez_4 ez_6 hC hDD), hP, hD, hS, lv_sub hl [0, 1, 2] rfl⟩ (show (k - 1) + 1 < k + 1 by omega)
  ·
    have nc_1 : ¬ 180 < i := fun q9 => c_1 ((nI_ltI (a := 180) (b := i) (by omega) (by omega)).mpr q9)
    refine lv_aload_n hx hb dX6_addPlace_9 rfl (lv_at hl 1 rfl) ?_
    refine va_get (D := (dC, dI)) (ci := 5) (v := .ref wa) (C := RX6) (T := TX6) (N := 1) hx hb hts qiX6_addPlace_X6 hown hK hP 0 rfl rfl 0 (by decide) (hts (.fieldLink RX6 9 "LuckyTicket$SumTable" "ways" "[J") (List.mem_of_getElem? (i := 1) rfl)) (fun _ h9 => h9) rfl dX6_addPlace_10 ?_
    refine lv_iload_n hx hb dX6_addPlace_13 rfl (lv_at hl 0 rfl) ?_
    refine lv_dup2_11 hx hb dX6_addPlace_14 rfl rfl ?_
    refine va_lald hx hb hK hP 1 0 rfl rfl (vp_in_nI (n := i) (by omega) (by decide)) dX6_addPlace_15 ?_
    refine lv_topl (fun z_9 ez_9 => ?_)
    rw [nI_clamp (n := i) (by omega)] at ez_9
    refine lv_aload_n hx hb dX6_addPlace_16 rfl (lv_at hl 1 rfl) ?_
    refine va_get (D := (dC, dI)) (ci := 5) (v := .ref wa) (C := RX6) (T := TX6) (N := 1) hx hb hts qiX6_addPlace_X6 hown hK hP 0 rfl rfl 0 (by decide) (hts (.fieldLink RX6 9 "LuckyTicket$SumTable" "ways" "[J") (List.mem_of_getElem? (i := 1) rfl)) (fun _ h9 => h9) rfl dX6_addPlace_17 ?_
    refine lv_iload_n hx hb dX6_addPlace_20 rfl (lv_at hl 0 rfl) ?_
    refine lv_iconst (v := 1) hx hb dX6_addPlace_21 (by decide) ?_
    refine lv_isub hx hb dX6_addPlace_22 ?_
    refine lv_topi (fun z_10 ez_10 => ?_)
    obtain rfl : z_10 = nI (i - 1) := ez_10.trans (pk_sub (a := i) (b := 1) (by omega))
    refine va_lald hx hb hK hP 1 0 rfl rfl (vp_in_nI (n := i - 1) (by omega) (by decide)) dX6_addPlace_23 ?_
    refine lv_topl (fun z_11 ez_11 => ?_)
    rw [nI_clamp (n := i - 1) (by omega)] at ez_11
    refine lv_ladd hx hb dX6_addPlace_24 ?_
    refine lv_topl (fun z_12 ez_12 => ?_)
    refine va_last hx hb hK hP hD hS 1 0 rfl rfl (vp_in_nI (n := i) (by omega) (by decide)) dX6_addPlace_25 (fun H locs hP hD hS => ?_)
    have hP : va_P (dC, dI) vwCl [(su, .inr (5, [.ref wa])), (wa, .inl (cJ, 181, .inr (.inl (vp_updL f1 ((nI i) : Int32).toNatClampNeg z_12))))] H := hP
    have hD : va_D A [(su, .inr (5, [.ref wa])), (wa, .inl (cJ, 181, .inr (.inl (vp_updL f1 ((nI i) : Int32).toNatClampNeg z_12))))] := hD
    rw [nI_clamp (n := i) (by omega)] at hP hD
    have hP : va_P (dC, dI) vwCl [(su, .inr (5, [.ref wa])), (wa, .inl (cJ, 181, .inr (.inl (vp_updL f1 i z_12))))] H := hP
    have hD : va_D A [(su, .inr (5, [.ref wa])), (wa, .inl (cJ, 181, .inr (.inl (vp_updL f1 i z_12))))] := hD
    obtain ⟨z_13, ez_13⟩ : ∃ y : Int32, y = nI i + 1 := ⟨_, rfl⟩
    refine lv_iinc (v := z_13) (lv' := [(2, .int z_13), (0, .ref su), (1, .int (nI bb))]) hx hb dX6_addPlace_26 hl (k := 0) rfl (by rw [ez_13]; rfl) (by decide) rfl (fun ls hl => ?_)
    obtain rfl : z_13 = nI (i + 1) := ez_13.trans (nI_add i 1)
    refine lv_goto (tgt := 2) hx hb dX6_addPlace_29 (by decide) ?_
    exact ih_2 (i + 1, vp_updL f1 i z_12) _ _ _ ⟨(show 1 ≤ (i + 1) ∧ (i + 1) ≤ 181 from (by omega)), (show ∀ j, j < (i + 1) → (vp_updL f1 i z_12) j = pf f j from adA hi1 (by omega) ez_12 ez_9 ez_11 hA hB), (show ∀ j, (i + 1) ≤ j → j < 181 → (vp_updL f1 i z_12) j = f j from adB hB), hP, hD, hS, lv_sub hl [0, 1, 2] rfl⟩ (show 182 - (i + 1) < 182 - i by omega)
def quX6_fill : List Cond := List.cons (.code yX6_fill cX6_fill 4 none) (HAppend.hAppend ([.fieldLink RX6 9 "LuckyTicket$SumTable" "ways" "[J", .methodLink RX6 13 yJ7_fill_d0a16, .static yJ7_fill_d0a16, .initialized RJ7, .code yJ7_fill_d0a16 cJ7_fill_d0a16 5 none, .methodLink RX6 19 yX6_addPlace, .instanceMethod yX6_addPlace, .selects RX6 yX6_addPlace yX6_addPlace, .initialized RX6, .code yX6_addPlace cX6_addPlace 3 none] : List Cond) wsX60)
theorem qiX6_fill_X6 : ∀ w ∈ wsX60, w ∈ quX6_fill := fun _ h => List.mem_cons_of_mem _ (List.mem_append_right _ h)
set_option maxRecDepth 20000 in
theorem qgX6_fill__J7_fill_181_S13 : GoodIn quX6_fill (va_wsS RX6 13 yJ7_fill_d0a16 quJ7_fill_181) := goodIn_p _ [5] rfl (by decide +kernel)
set_option maxRecDepth 20000 in
theorem qgX6_fill__X6_addPlace_V19 : GoodIn quX6_fill (wsV RX6 19 RX6 yX6_addPlace quX6_addPlace) := goodIn_p _ [10] rfl (by decide +kernel)
set_option maxHeartbeats 4000000 in
set_option maxRecDepth 100000 in
theorem qkX6_fill (l : Launch) (dC : Nat → ClassId) (dI : Nat → Nat → Nat) (su : Nat) (wa : Nat) (cJ : ClassId) (f : Nat → Int64) (nn : Nat) (bb : Nat) (sz : Nat) (hn : nn ≤ 12) (hb1 : 1 ≤ bb) (hb2 : bb ≤ 16) : Met l yX6_fill quX6_fill ({ frames := 1, cells := 0, slots := 0, locals := 24 }) (va_Pc [.ref su, .int (nI nn), .int (nI bb)] (hw (dC, dI) vwCl [(su, .inr (5, [.ref wa])), (wa, .inl (cJ, 181, .inr (.inl f)))] [(cJ, .long)] sz)) (va_Qv (fun (_ : Unit) => True) (fun (_ : Unit) t => ∃ (f2 : Nat → Int64), (∀ j, j < 181 → f2 j = TT 0 (bb - 1) nn j) ∧ va_P (dC, dI) vwCl [(su, .inr (5, [.ref wa])), (wa, .inl (cJ, 181, .inr (.inl f2)))] t.heap ∧ va_K (dC, dI) vwCl [(cJ, .long)] t ∧ va_D (va_A [(su, .inr (5, [.ref wa])), (wa, .inl (cJ, 181, .inr (.inl f)))] sz) [(su, .inr (5, [.ref wa])), (wa, .inl (cJ, 181, .inr (.inl f2)))]) (va_A [(su, .inr (5, [.ref wa])), (wa, .inl (cJ, 181, .inr (.inl f)))] sz)) 0 0 (va_A [(su, .inr (5, [.ref wa])), (wa, .inl (cJ, 181, .inr (.inl f)))] sz) := by
  refine Met.ofW (cc := cX6_fill) (maxL := 4) (ret := none) (by decide) rfl ?_
  intro p e s m args below meth c s₁ B hml hv
  obtain ⟨rfl, hsz, hP, hK, hD0, hN⟩ := hv
  have hx := B.exec
  have hb := B.bytes
  have hr := B.returns
  have hts := atoms_spec (ws := quX6_fill) B.pre
  have hown : s.vm.findClass RX6 = some m.cls := findClass_of_methodNamed B.named
  have hlocks := B.notSynchronized
  subst hsz
  have hD := hD0.self (sz := s.heap.size)
  generalize hAe : va_A [(su, .inr (5, [.ref wa])), (wa, .inl (cJ, 181, .inr (.inl f)))] s.heap.size = A at hD ⊢
  have hA : ∀ q : Nat, s.heap.size ≤ q → A q := fun q h => by rw [← hAe]; exact Or.inr h
  have hS : va_S A s.heap s.heap [] := va_S.rf
  have hP : va_P (dC, dI) vwCl [(su, .inr (5, [.ref wa])), (wa, .inl (cJ, 181, .inr (.inl f)))] s.heap := hP
  have hl := lv_entry ([.ref su, .int (nI nn), .int (nI bb)]) (n := 4) (Nat.le_of_ble_eq_true rfl)
  rw [lg_entry_eq]
  generalize (lg_sl ([.ref su, .int (nI nn), .int (nI bb)]) ++ List.replicate (4 - (lg_sl ([.ref su, .int (nI nn), .int (nI bb)])).length) Slot.unset).toArray = ls at hl ⊢
  have hl : lv_has ls 4 [(0, .ref su), (1, .int (nI nn)), (2, .int (nI bb))] := hl
  refine lv_aload_n hx hb dX6_fill_0 rfl (lv_at hl 0 rfl) ?_
  refine va_get (D := (dC, dI)) (ci := 5) (v := .ref wa) (C := RX6) (T := TX6) (N := 1) hx hb hts qiX6_fill_X6 hown hK hP 0 rfl rfl 0 (by decide) (hts (.fieldLink RX6 9 "LuckyTicket$SumTable" "ways" "[J") (List.mem_of_getElem? (i := 1) rfl)) (fun _ h9 => h9) rfl dX6_fill_1 ?_
  refine lv_lconst (v := 0) hx hb dX6_fill_4 (by decide) ?_
  have hFc := va_free (wc := [(wa, .inl (cJ, 181, .inr (.inl f)))]) hD hS hA [1] rfl
  refine va_callv (va_runS (As := [.ref wa, .long 0]) (rest := []) ⟨hx, hb, hml, hown, hts⟩ (qkJ7_fill_181 l dC dI wa cJ f 0 (s.heap.size)) (va_cwS 2 hts qgX6_fill__J7_fill_181_S13 rfl rfl rfl (by decide +kernel) ⟨lel 1 1 rfl, lel 24 24 rfl⟩) ⟨hw_fb, (hw_use hP hD hK hN [1] rfl (by decide) rfl [0] rfl)⟩ rfl rfl hl.1 rfl (lv_room (Nat.le_of_ble_eq_true rfl)) dX6_fill_5 ⟨lel 0 0 rfl, lel 0 0 rfl⟩) hS (fun q _ h => hFc q h) hFc (fun u_2 t H1 locs ht hvm hwr_1 hB hz1 hk1 hS => ?_)
  obtain ⟨f2_3, hf_4, hP1, hK1, hD1⟩ := hB
  rw [ht] at hP1
  have hK1 := va_K.moved hvm.symm hK1
  obtain ⟨hP, hD⟩ := va_join (wr := [(su, .inr (5, [.ref wa]))]) (w1 := [(wa, .inl (cJ, 181, .inr (.inl f2_3)))]) hP hD [1] [0] rfl rfl (by decide) (by decide) hk1 hFc hP1 hD1
  have hK := (hK.sub (tys' := []) [] rfl).app hK1
  generalize H1 = H at hP hS ⊢
  have hP : va_P (dC, dI) vwCl [(su, .inr (5, [.ref wa])), (wa, .inl (cJ, 181, .inr (.inl f2_3)))] H := hP
  have hD : va_D A [(su, .inr (5, [.ref wa])), (wa, .inl (cJ, 181, .inr (.inl f2_3)))] := hD
  have hK : va_K (dC, dI) vwCl [(cJ, .long)] s := hK
  refine lv_aload_n hx hb dX6_fill_8 rfl (lv_at hl 0 rfl) ?_
  refine va_get (D := (dC, dI)) (ci := 5) (v := .ref wa) (C := RX6) (T := TX6) (N := 1) hx hb hts qiX6_fill_X6 hown hK hP 0 rfl rfl 0 (by decide) (hts (.fieldLink RX6 9 "LuckyTicket$SumTable" "ways" "[J") (List.mem_of_getElem? (i := 1) rfl)) (fun _ h9 => h9) rfl dX6_fill_9 ?_
  refine lv_iconst (v := 0) hx hb dX6_fill_12 (by decide) ?_
  refine lv_lconst (v := 1) hx hb dX6_fill_13 (by decide) ?_
  refine va_last hx hb hK hP hD hS 1 0 rfl rfl (vp_in_lit (by decide)) dX6_fill_14 (fun H locs hP hD hS => ?_)
  have hP : va_P (dC, dI) vwCl [(su, .inr (5, [.ref wa])), (wa, .inl (cJ, 181, .inr (.inl (vp_updL f2_3 (0 : Int32).toNatClampNeg 1))))] H := hP
  have hD : va_D A [(su, .inr (5, [.ref wa])), (wa, .inl (cJ, 181, .inr (.inl (vp_updL f2_3 (0 : Int32).toNatClampNeg 1))))] := hD
  refine lv_iconst (v := 0) hx hb dX6_fill_15 (by decide) ?_
  refine lv_istore_n (lv' := [(3, .int 0), (0, .ref su), (1, .int (nI nn)), (2, .int (nI bb))]) hx hb dX6_fill_16 rfl hl (by decide) rfl (fun ls hl => ?_)
  refine loopW (σ := Nat × (Nat → Int64)) (fun v => 13 - v.1) (fun v H locs ls => (v.1 ≤ nn) ∧ (∀ j, j < 181 → v.2 j = TT 0 (bb - 1) v.1 j) ∧ va_P (dC, dI) vwCl [(su, .inr (5, [.ref wa])), (wa, .inl (cJ, 181, .inr (.inl v.2)))] H ∧ va_D A [(su, .inr (5, [.ref wa])), (wa, .inl (cJ, 181, .inr (.inl v.2)))] ∧ va_S A s.heap H locs ∧ lv_has ls 4 [(3, .int (nI v.1)), (0, .ref su), (1, .int (nI nn)), (2, .int (nI bb))]) (fun v H locs ls hI ih_17 => ?_) (0, (vp_updL f2_3 (0 : Int32).toNatClampNeg 1)) ⟨(show 0 ≤ nn from Nat.zero_le _), (show ∀ j, j < 181 → ((vp_updL f2_3 (0 : Int32).toNatClampNeg 1)) j = TT 0 (bb - 1) 0 j from T0 hf_4), hP, hD, hS, hl⟩
  obtain ⟨i, f1⟩ := v
  obtain ⟨hi, hT1, hP, hD, hS, hl⟩ := hI
  have hi : i ≤ nn := hi
  have hT1 : ∀ j, j < 181 → f1 j = TT 0 (bb - 1) i j := hT1
  have hP : va_P (dC, dI) vwCl [(su, .inr (5, [.ref wa])), (wa, .inl (cJ, 181, .inr (.inl f1)))] H := hP
  have hD : va_D A [(su, .inr (5, [.ref wa])), (wa, .inl (cJ, 181, .inr (.inl f1)))] := hD
  have hl : lv_has ls 4 [(3, .int (nI i)), (0, .ref su), (1, .int (nI nn)), (2, .int (nI bb))] := hl
  refine lv_iload_n hx hb dX6_fill_17 rfl (lv_at hl 0 rfl) ?_
  refine lv_iload_n hx hb dX6_fill_18 rfl (lv_at hl 2 rfl) ?_
  refine lv_icmp_ge (tgt := 33) hx hb dX6_fill_19 (by decide) (fun c_5 => ?_) (fun c_5 => ?_)
  ·
    have nc_5 : nn ≤ i := (nI_leI (a := nn) (b := i) (by omega) (by omega)).mp c_5
    have hP9 := hP.sub (ws' := [(su, .inr (5, [.ref wa])), (wa, .inl (cJ, 181, .inr (.inl f1)))]) [0, 1] rfl
    have hD9 := hD.sub (ws' := [(su, .inr (5, [.ref wa])), (wa, .inl (cJ, 181, .inr (.inl f1)))]) [0, 1] (by decide) rfl
    have hK9 := hK.sub (tys' := [(cJ, .long)]) [0] rfl
    exact W.vret hx hb hr (fun t ht hW => ⟨⟨(), rfl, trivial, f1, (by rw [← show i = nn by omega]; exact hT1), by rw [ht]; exact hP9, va_K.moved hW.alike hK9, hD9⟩, hS.F ht⟩) hS.2.2 dX6_fill_33
  ·
    have nc_5 : ¬ nn ≤ i := fun q9 => c_5 ((nI_leI (a := nn) (b := i) (by omega) (by omega)).mpr q9)
    refine lv_aload_n hx hb dX6_fill_22 rfl (lv_at hl 1 rfl) ?_
    refine lv_iload_n hx hb dX6_fill_23 rfl (lv_at hl 3 rfl) ?_
    have hFc := va_free (wc := [(su, .inr (5, [.ref wa])), (wa, .inl (cJ, 181, .inr (.inl f1)))]) hD hS hA [0, 1] rfl
    refine va_callv (va_runV (As := [.int (nI bb)]) (rest := []) ⟨hx, hb, hml, hown, hts⟩ (qkX6_addPlace l dC dI su wa cJ f1 bb (H.size) (by omega) (by omega)) (cwV 1 hts qgX6_fill__X6_addPlace_V19 rfl rfl rfl (by decide +kernel) ⟨lel 1 1 rfl, lel 22 24 rfl⟩) ⟨hw_fb, va_recv hK hP (ci := 5) (q0 := 0) rfl rfl, (hw_use hP hD hK hN [0, 1] rfl (by decide) rfl [0] rfl)⟩ rfl rfl hl.1 rfl (lv_room (Nat.le_of_ble_eq_true rfl)) dX6_fill_24 ⟨lel 0 0 rfl, lel 0 0 rfl⟩) hS (fun q _ h => hFc q h) hFc (fun u_7 t H1 locs ht hvm hwr_6 hB hz1 hk1 hS => ?_)
    obtain ⟨f2_8, hf_9, hP1, hK1, hD1⟩ := hB
    rw [ht] at hP1
    have hK1 := va_K.moved hvm.symm hK1
    obtain ⟨hP, hD⟩ := va_join (wr := []) (w1 := [(su, .inr (5, [.ref wa])), (wa, .inl (cJ, 181, .inr (.inl f2_8)))]) hP hD [0, 1] [] rfl rfl (by decide) (by decide) hk1 hFc hP1 hD1
    have hK := (hK.sub (tys' := []) [] rfl).app hK1
    generalize H1 = H at hP hS ⊢
    have hP : va_P (dC, dI) vwCl [(su, .inr (5, [.ref wa])), (wa, .inl (cJ, 181, .inr (.inl f2_8)))] H := hP
    have hD : va_D A [(su, .inr (5, [.ref wa])), (wa, .inl (cJ, 181, .inr (.inl f2_8)))] := hD
    have hK : va_K (dC, dI) vwCl [(cJ, .long)] s := hK
    obtain ⟨z_10, ez_10⟩ : ∃ y : Int32, y = nI i + 1 := ⟨_, rfl⟩
    refine lv_iinc (v := z_10) (lv' := [(3, .int z_10), (0, .ref su), (1, .int (nI nn)), (2, .int (nI bb))]) hx hb dX6_fill_27 hl (k := 0) rfl (by rw [ez_10]; rfl) (by decide) rfl (fun ls hl => ?_)
    obtain rfl : z_10 = nI (i + 1) := ez_10.trans (nI_add i 1)
    refine lv_goto (tgt := 17) hx hb dX6_fill_30 (by decide) ?_
    exact ih_17 (i + 1, f2_8) _ _ _ ⟨(show (i + 1) ≤ nn from (by omega)), (show ∀ j, j < 181 → f2_8 j = TT 0 (bb - 1) (i + 1) j from (fun j hj => (hf_9 j hj).trans (sgl_cong (fun q hq => hT1 q (by omega)) _))), hP, hD, hS, lv_sub hl [0, 1, 2, 3] rfl⟩ (show 13 - (i + 1) < 13 - i by omega)
def quX6_waysTo : List Cond := List.cons (.code yX6_waysTo cX6_waysTo 2 (some .long)) (HAppend.hAppend ([.fieldLink RX6 9 "LuckyTicket$SumTable" "ways" "[J"] : List Cond) wsX60)
theorem qiX6_waysTo_X6 : ∀ w ∈ wsX60, w ∈ quX6_waysTo := fun _ h => List.mem_cons_of_mem _ (List.mem_append_right _ h)
set_option maxHeartbeats 4000000 in
set_option maxRecDepth 100000 in
theorem qkX6_waysTo (l : Launch) (dC : Nat → ClassId) (dI : Nat → Nat → Nat) (su : Nat) (wa : Nat) (cJ : ClassId) (f : Nat → Int64) (a1 : Int32) : Met l yX6_waysTo quX6_waysTo ({ frames := 0, cells := 0, slots := 0, locals := 0 }) (va_Pc [.ref su, .int a1] (pw (dC, dI) vwCl [(su, .inr (5, [.ref wa])), (wa, .inl (cJ, 181, .inr (.inl f)))] [(cJ, .long)])) (vp_Sl (fun r => r = wt f a1)) 0 0 (fun _ => False) := by
  refine Met.ofW (cc := cX6_waysTo) (maxL := 2) (ret := (some .long)) (by decide) rfl ?_
  intro p e s m args below meth c s₁ B hml hv
  obtain ⟨rfl, hP, hK, hN⟩ := hv
  have hx := B.exec
  have hb := B.bytes
  have hr := B.returns
  have hts := atoms_spec (ws := quX6_waysTo) B.pre
  have hown : s.vm.findClass RX6 = some m.cls := findClass_of_methodNamed B.named
  have hlocks := B.notSynchronized
  have hl := lv_entry ([.ref su, .int a1]) (n := 2) (Nat.le_of_ble_eq_true rfl)
  rw [lg_entry_eq]
  generalize (lg_sl ([.ref su, .int a1]) ++ List.replicate (2 - (lg_sl ([.ref su, .int a1])).length) Slot.unset).toArray = ls at hl ⊢
  have hl : lv_has ls 2 [(0, .ref su), (1, .int a1)] := hl
  refine lv_iload_n hx hb dX6_waysTo_0 rfl (lv_at hl 1 rfl) ?_
  refine lv_if_lt (tgt := 20) hx hb dX6_waysTo_1 (by decide) (fun c_1 => ?_) (fun c_1 => ?_)
  ·
    refine lv_lconst (v := 0) hx hb dX6_waysTo_20 (by decide) ?_
    exact W.lret (v := 0) hx hb hr (fun t ht hW => ⟨0, rfl, wt_a c_1, ht⟩) t_nil dX6_waysTo_21
  ·
    refine lv_iload_n hx hb dX6_waysTo_4 rfl (lv_at hl 1 rfl) ?_
    refine lv_sipush (v := 180) hx hb dX6_waysTo_5 (by decide) ?_
    refine lv_icmp_gt (tgt := 20) hx hb dX6_waysTo_8 (by decide) (fun c_2 => ?_) (fun c_2 => ?_)
    ·
      refine lv_lconst (v := 0) hx hb dX6_waysTo_20 (by decide) ?_
      exact W.lret (v := 0) hx hb hr (fun t ht hW => ⟨0, rfl, wt_b c_2, ht⟩) t_nil dX6_waysTo_21
    ·
      refine lv_aload_n hx hb dX6_waysTo_11 rfl (lv_at hl 0 rfl) ?_
      refine va_get (D := (dC, dI)) (ci := 5) (v := .ref wa) (C := RX6) (T := TX6) (N := 1) hx hb hts qiX6_waysTo_X6 hown hK hP 0 rfl rfl 0 (by decide) (hts (.fieldLink RX6 9 "LuckyTicket$SumTable" "ways" "[J") (List.mem_of_getElem? (i := 1) rfl)) (fun _ h9 => h9) rfl dX6_waysTo_12 ?_
      refine lv_iload_n hx hb dX6_waysTo_15 rfl (lv_at hl 1 rfl) ?_
      refine va_lald hx hb hK hP 1 0 rfl rfl (wt_in c_1 c_2) dX6_waysTo_16 ?_
      refine lv_topl (fun z_3 ez_3 => ?_)
      refine lv_goto (tgt := 21) hx hb dX6_waysTo_17 (by decide) ?_
      exact W.lret (v := z_3) hx hb hr (fun t ht hW => ⟨z_3, rfl, ez_3.trans (wt_c c_1 c_2), ht⟩) t_nil dX6_waysTo_21
def quX9_isLong : List Cond := List.cons (.code yX9_isLong cX9_isLong 2 (some .boolean)) ([.methodLink RX9 158 yX9_isWithin, .static yX9_isWithin, .initialized RX9, .code yX9_isWithin cX9_isWithin 3 (some .boolean)] : List Cond)
set_option maxRecDepth 20000 in
theorem qgX9_isLong__X9_isWithin_S158 : GoodIn quX9_isLong (va_wsS RX9 158 yX9_isWithin quX9_isWithin) := goodIn_p _ [4] rfl (by decide +kernel)
set_option maxHeartbeats 4000000 in
set_option maxRecDepth 100000 in
theorem qkX9_isLong (l : Launch) (dC : Nat → ClassId) (dI : Nat → Nat → Nat) (a1 : Int32) (a2 : Int32) : Met l yX9_isLong quX9_isLong ({ frames := 1, cells := 0, slots := 0, locals := 22 }) (va_Pc [.int a1, .int a2] (fun _ => True)) (vp_Si (fun r => r = il a1 a2)) 0 0 (fun _ => False) := by
  refine Met.ofW (cc := cX9_isLong) (maxL := 2) (ret := (some .boolean)) (by decide) rfl ?_
  intro p e s m args below meth c s₁ B hml hv
  obtain ⟨rfl, _⟩ := hv
  have hx := B.exec
  have hb := B.bytes
  have hr := B.returns
  have hts := atoms_spec (ws := quX9_isLong) B.pre
  have hown : s.vm.findClass RX9 = some m.cls := findClass_of_methodNamed B.named
  have hlocks := B.notSynchronized
  have hl := lv_entry ([.int a1, .int a2]) (n := 2) (Nat.le_of_ble_eq_true rfl)
  rw [lg_entry_eq]
  generalize (lg_sl ([.int a1, .int a2]) ++ List.replicate (2 - (lg_sl ([.int a1, .int a2])).length) Slot.unset).toArray = ls at hl ⊢
  have hl : lv_has ls 2 [(0, .int a1), (1, .int a2)] := hl
  refine lv_iload_n hx hb dX9_isLong_0 rfl (lv_at hl 0 rfl) ?_
  refine lv_iconst (v := 1) hx hb dX9_isLong_1 (by decide) ?_
  refine lv_bipush (v := 12) hx hb dX9_isLong_2 (by decide) ?_
  refine vp_callSi (W.runS (As := [.int a1, .int 1, .int 12]) (rest := []) ⟨hx, hb, hml, hown, hts⟩ (qkX9_isWithin l dC dI a1 1 12) (va_cwS 3 hts qgX9_isLong__X9_isWithin_S158 rfl rfl rfl (by decide +kernel) ⟨lel 1 1 rfl, lel 22 22 rfl⟩) ⟨pn_fb, pn_use⟩ rfl rfl hl.1 rfl (lv_room (Nat.le_of_ble_eq_true rfl)) dX9_isLong_4 ⟨lel 0 0 rfl, lel 0 0 rfl⟩) (fun r_1 hr_1 => ?_)
  refine lv_if_eq (tgt := 24) hx hb dX9_isLong_7 (by decide) (fun c_2 => ?_) (fun c_2 => ?_)
  ·
    refine lv_iconst (v := 0) hx hb dX9_isLong_24 (by decide) ?_
    exact W.zret (v := 0) hx hb hr rfl (fun t ht hW => ⟨0, rfl, il_a (hr_1.symm.trans c_2), ht⟩) t_nil dX9_isLong_25
  ·
    refine lv_iload_n hx hb dX9_isLong_10 rfl (lv_at hl 1 rfl) ?_
    refine lv_iconst (v := 2) hx hb dX9_isLong_11 (by decide) ?_
    refine lv_bipush (v := 16) hx hb dX9_isLong_12 (by decide) ?_
    refine vp_callSi (W.runS (As := [.int a2, .int 2, .int 16]) (rest := []) ⟨hx, hb, hml, hown, hts⟩ (qkX9_isWithin l dC dI a2 2 16) (va_cwS 3 hts qgX9_isLong__X9_isWithin_S158 rfl rfl rfl (by decide +kernel) ⟨lel 1 1 rfl, lel 22 22 rfl⟩) ⟨pn_fb, pn_use⟩ rfl rfl hl.1 rfl (lv_room (Nat.le_of_ble_eq_true rfl)) dX9_isLong_14 ⟨lel 0 0 rfl, lel 0 0 rfl⟩) (fun r_3 hr_3 => ?_)
    refine lv_if_eq (tgt := 24) hx hb dX9_isLong_17 (by decide) (fun c_4 => ?_) (fun c_4 => ?_)
    ·
      refine lv_iconst (v := 0) hx hb dX9_isLong_24 (by decide) ?_
      exact W.zret (v := 0) hx hb hr rfl (fun t ht hW => ⟨0, rfl, il_b (hr_3.symm.trans c_4), ht⟩) t_nil dX9_isLong_25
    ·
      refine lv_iconst (v := 1) hx hb dX9_isLong_20 (by decide) ?_
      refine lv_goto (tgt := 25) hx hb dX9_isLong_21 (by decide) ?_
      exact W.zret (v := 1) hx hb hr rfl (fun t ht hW => ⟨1, rfl, il_1 (fun e => c_2 (hr_1.trans e)) (fun e => c_4 (hr_3.trans e)), ht⟩) t_nil dX9_isLong_25
def quX10_isLong : List Cond := List.cons (.code yX10_isLong cX10_isLong 2 (some .boolean)) ([.constantLong RX10 453 (12), .methodLink RX10 82 yX10_in, .static yX10_in, .initialized RX10, .code yX10_in cX10_in 6 (some .boolean), .constantLong RX10 80 (2), .constantLong RX10 455 (16)] : List Cond)
set_option maxRecDepth 20000 in
theorem qgX10_isLong__X10_in_S82 : GoodIn quX10_isLong (va_wsS RX10 82 yX10_in quX10_in) := goodIn_p _ [5] rfl (by decide +kernel)
set_option maxHeartbeats 4000000 in
set_option maxRecDepth 100000 in
theorem qkX10_isLong (l : Launch) (dC : Nat → ClassId) (dI : Nat → Nat → Nat) (a1 : Int32) (a2 : Int32) : Met l yX10_isLong quX10_isLong ({ frames := 1, cells := 0, slots := 0, locals := 25 }) (va_Pc [.int a1, .int a2] (fun _ => True)) (vp_Si (fun r => r = il a1 a2)) 0 0 (fun _ => False) := by
  refine Met.ofW (cc := cX10_isLong) (maxL := 2) (ret := (some .boolean)) (by decide) rfl ?_
  intro p e s m args below meth c s₁ B hml hv
  obtain ⟨rfl, _⟩ := hv
  have hx := B.exec
  have hb := B.bytes
  have hr := B.returns
  have hts := atoms_spec (ws := quX10_isLong) B.pre
  have hown : s.vm.findClass RX10 = some m.cls := findClass_of_methodNamed B.named
  have hlocks := B.notSynchronized
  have hl := lv_entry ([.int a1, .int a2]) (n := 2) (Nat.le_of_ble_eq_true rfl)
  rw [lg_entry_eq]
  generalize (lg_sl ([.int a1, .int a2]) ++ List.replicate (2 - (lg_sl ([.int a1, .int a2])).length) Slot.unset).toArray = ls at hl ⊢
  have hl : lv_has ls 2 [(0, .int a1), (1, .int a2)] := hl
  refine lv_iload_n hx hb dX10_isLong_0 rfl (lv_at hl 0 rfl) ?_
  refine lv_i2l (v := a1.toInt64) hx hb dX10_isLong_1 rfl ?_
  refine lv_lconst (v := 1) hx hb dX10_isLong_2 (by decide) ?_
  refine lv_ldc2 (v := 12) hx hb hown (hts (.constantLong RX10 453 (12)) (List.mem_of_getElem? (i := 1) rfl)) dX10_isLong_3 ?_
  refine vp_callSi (W.runS (As := [.long a1.toInt64, .long 1, .long 12]) (rest := []) ⟨hx, hb, hml, hown, hts⟩ (qkX10_in l dC dI a1.toInt64 1 12) (va_cwS 3 hts qgX10_isLong__X10_in_S82 rfl rfl rfl (by decide +kernel) ⟨lel 1 1 rfl, lel 25 25 rfl⟩) ⟨pn_fb, pn_use⟩ rfl rfl hl.1 rfl (lv_room (Nat.le_of_ble_eq_true rfl)) dX10_isLong_6 ⟨lel 0 0 rfl, lel 0 0 rfl⟩) (fun r_1 hr_1 => ?_)
  refine lv_if_eq (tgt := 30) hx hb dX10_isLong_9 (by decide) (fun c_2 => ?_) (fun c_2 => ?_)
  ·
    refine lv_iconst (v := 0) hx hb dX10_isLong_30 (by decide) ?_
    exact W.zret (v := 0) hx hb hr rfl (fun t ht hW => ⟨0, rfl, il_a ((inr_wi a1 1 12).symm.trans (hr_1.symm.trans c_2)), ht⟩) t_nil dX10_isLong_31
  ·
    refine lv_iload_n hx hb dX10_isLong_12 rfl (lv_at hl 1 rfl) ?_
    refine lv_i2l (v := a2.toInt64) hx hb dX10_isLong_13 rfl ?_
    refine lv_ldc2 (v := 2) hx hb hown (hts (.constantLong RX10 80 (2)) (List.mem_of_getElem? (i := 6) rfl)) dX10_isLong_14 ?_
    refine lv_ldc2 (v := 16) hx hb hown (hts (.constantLong RX10 455 (16)) (List.mem_of_getElem? (i := 7) rfl)) dX10_isLong_17 ?_
    refine vp_callSi (W.runS (As := [.long a2.toInt64, .long 2, .long 16]) (rest := []) ⟨hx, hb, hml, hown, hts⟩ (qkX10_in l dC dI a2.toInt64 2 16) (va_cwS 3 hts qgX10_isLong__X10_in_S82 rfl rfl rfl (by decide +kernel) ⟨lel 1 1 rfl, lel 25 25 rfl⟩) ⟨pn_fb, pn_use⟩ rfl rfl hl.1 rfl (lv_room (Nat.le_of_ble_eq_true rfl)) dX10_isLong_20 ⟨lel 0 0 rfl, lel 0 0 rfl⟩) (fun r_3 hr_3 => ?_)
    refine lv_if_eq (tgt := 30) hx hb dX10_isLong_23 (by decide) (fun c_4 => ?_) (fun c_4 => ?_)
    ·
      refine lv_iconst (v := 0) hx hb dX10_isLong_30 (by decide) ?_
      exact W.zret (v := 0) hx hb hr rfl (fun t ht hW => ⟨0, rfl, il_b ((inr_wi a2 2 16).symm.trans (hr_3.symm.trans c_4)), ht⟩) t_nil dX10_isLong_31
    ·
      refine lv_iconst (v := 1) hx hb dX10_isLong_26 (by decide) ?_
      refine lv_goto (tgt := 31) hx hb dX10_isLong_27 (by decide) ?_
      exact W.zret (v := 1) hx hb hr rfl (fun t ht hW => ⟨1, rfl, il_1 (fun e => c_2 (hr_1.trans ((inr_wi a1 1 12).trans e))) (fun e => c_4 (hr_3.trans ((inr_wi a2 2 16).trans e))), ht⟩) t_nil dX10_isLong_31
def quX9_of : List Cond := List.cons (.code yX9_of cX9_of 4 (some .long)) (HAppend.hAppend (HAppend.hAppend ([.methodLink RX9 318 yX9_isLong, .static yX9_isLong, .initialized RX9, .code yX9_isLong cX9_isLong 2 (some .boolean), .methodLink RX9 158 yX9_isWithin, .static yX9_isWithin, .code yX9_isWithin cX9_isWithin 3 (some .boolean), .constantLong RX9 265 (-2), .fieldLink RX9 64 "LuckyTicket" "sumTable" "LLuckyTicket$SumTable;", .methodLink RX9 321 yX6_fill, .instanceMethod yX6_fill, .selects RX6 yX6_fill yX6_fill, .initialized RX6, .code yX6_fill cX6_fill 4 none, .fieldLink RX6 9 "LuckyTicket$SumTable" "ways" "[J", .methodLink RX6 13 yJ7_fill_d0a16, .static yJ7_fill_d0a16, .initialized RJ7, .code yJ7_fill_d0a16 cJ7_fill_d0a16 5 none, .methodLink RX6 19 yX6_addPlace, .instanceMethod yX6_addPlace, .selects RX6 yX6_addPlace yX6_addPlace, .code yX6_addPlace cX6_addPlace 3 none, .methodLink RX9 324 yX6_waysTo, .instanceMethod yX6_waysTo, .selects RX6 yX6_waysTo yX6_waysTo, .code yX6_waysTo cX6_waysTo 2 (some .long)] : List Cond) wsX90) wsX60)
theorem qiX9_of_X9 : ∀ w ∈ wsX90, w ∈ quX9_of := fun _ h => List.mem_cons_of_mem _ (List.mem_append_left _ (List.mem_append_right _ h))
theorem qiX9_of_X6 : ∀ w ∈ wsX60, w ∈ quX9_of := fun _ h => List.mem_cons_of_mem _ (List.mem_append_right _ h)
set_option maxRecDepth 20000 in
theorem qgX9_of__X9_isLong_S318 : GoodIn quX9_of (va_wsS RX9 318 yX9_isLong quX9_isLong) := goodIn_p _ [4, 7] rfl (by decide +kernel)
set_option maxRecDepth 20000 in
theorem qgX9_of__X9_isWithin_S158 : GoodIn quX9_of (va_wsS RX9 158 yX9_isWithin quX9_isWithin) := goodIn_p _ [7] rfl (by decide +kernel)
set_option maxRecDepth 20000 in
theorem qgX9_of__X6_fill_V321 : GoodIn quX9_of (wsV RX9 321 RX6 yX6_fill quX6_fill) := goodIn_p _ [14, 19, 23] rfl (by decide +kernel)
set_option maxRecDepth 20000 in
theorem qgX9_of__X6_waysTo_V324 : GoodIn quX9_of (wsV RX9 324 RX6 yX6_waysTo quX6_waysTo) := goodIn_p _ [27] rfl (by decide +kernel)
set_option maxHeartbeats 4000000 in
set_option maxRecDepth 100000 in
theorem qkX9_of (l : Launch) (dC : Nat → ClassId) (dI : Nat → Nat → Nat) (h0 : Nat) (tp : Nat) (sc : Nat) (rd : Nat) (cu : Nat) (im : Nat) (ig : Nat) (sl : Nat) (se : Nat) (su : Nat) (fc : Nat) (wa : Nat) (cJ : ClassId) (f : Nat → Int64) (a1 : Int32) (a2 : Int32) (a3 : Int32) (sz : Nat) : Met l yX9_of quX9_of ({ frames := 2, cells := 0, slots := 0, locals := 47 }) (va_Pc [.ref h0, .int a1, .int a2, .int a3] (hw (dC, dI) vwCl [(h0, .inr (7, [.ref tp, .ref sc, .ref rd, .ref cu, .ref im, .ref ig, .ref sl, .ref se, .ref su, .ref fc])), (su, .inr (5, [.ref wa])), (wa, .inl (cJ, 181, .inr (.inl f)))] [(cJ, .long)] sz)) (va_Ql (fun (r : Int64) (_ : Unit) => r = ofv a1 a2 a3) (fun (_ : Unit) t => ∃ (f2 : Nat → Int64), va_P (dC, dI) vwCl [(h0, .inr (7, [.ref tp, .ref sc, .ref rd, .ref cu, .ref im, .ref ig, .ref sl, .ref se, .ref su, .ref fc])), (su, .inr (5, [.ref wa])), (wa, .inl (cJ, 181, .inr (.inl f2)))] t.heap ∧ va_K (dC, dI) vwCl [(cJ, .long)] t ∧ va_D (va_A [(h0, .inr (7, [.ref tp, .ref sc, .ref rd, .ref cu, .ref im, .ref ig, .ref sl, .ref se, .ref su, .ref fc])), (su, .inr (5, [.ref wa])), (wa, .inl (cJ, 181, .inr (.inl f)))] sz) [(h0, .inr (7, [.ref tp, .ref sc, .ref rd, .ref cu, .ref im, .ref ig, .ref sl, .ref se, .ref su, .ref fc])), (su, .inr (5, [.ref wa])), (wa, .inl (cJ, 181, .inr (.inl f2)))]) (va_A [(h0, .inr (7, [.ref tp, .ref sc, .ref rd, .ref cu, .ref im, .ref ig, .ref sl, .ref se, .ref su, .ref fc])), (su, .inr (5, [.ref wa])), (wa, .inl (cJ, 181, .inr (.inl f)))] sz)) 0 0 (va_A [(h0, .inr (7, [.ref tp, .ref sc, .ref rd, .ref cu, .ref im, .ref ig, .ref sl, .ref se, .ref su, .ref fc])), (su, .inr (5, [.ref wa])), (wa, .inl (cJ, 181, .inr (.inl f)))] sz) := by
  refine Met.ofW (cc := cX9_of) (maxL := 4) (ret := (some .long)) (by decide) rfl ?_
  intro p e s m args below meth c s₁ B hml hv
  obtain ⟨rfl, hsz, hP, hK, hD0, hN⟩ := hv
  have hx := B.exec
  have hb := B.bytes
  have hr := B.returns
  have hts := atoms_spec (ws := quX9_of) B.pre
  have hown : s.vm.findClass RX9 = some m.cls := findClass_of_methodNamed B.named
  have hlocks := B.notSynchronized
  subst hsz
  have hD := hD0.self (sz := s.heap.size)
  generalize hAe : va_A [(h0, .inr (7, [.ref tp, .ref sc, .ref rd, .ref cu, .ref im, .ref ig, .ref sl, .ref se, .ref su, .ref fc])), (su, .inr (5, [.ref wa])), (wa, .inl (cJ, 181, .inr (.inl f)))] s.heap.size = A at hD ⊢
  have hA : ∀ q : Nat, s.heap.size ≤ q → A q := fun q h => by rw [← hAe]; exact Or.inr h
  have hS : va_S A s.heap s.heap [] := va_S.rf
  have hP : va_P (dC, dI) vwCl [(h0, .inr (7, [.ref tp, .ref sc, .ref rd, .ref cu, .ref im, .ref ig, .ref sl, .ref se, .ref su, .ref fc])), (su, .inr (5, [.ref wa])), (wa, .inl (cJ, 181, .inr (.inl f)))] s.heap := hP
  have hl := lv_entry ([.ref h0, .int a1, .int a2, .int a3]) (n := 4) (Nat.le_of_ble_eq_true rfl)
  rw [lg_entry_eq]
  generalize (lg_sl ([.ref h0, .int a1, .int a2, .int a3]) ++ List.replicate (4 - (lg_sl ([.ref h0, .int a1, .int a2, .int a3])).length) Slot.unset).toArray = ls at hl ⊢
  have hl : lv_has ls 4 [(0, .ref h0), (1, .int a1), (2, .int a2), (3, .int a3)] := hl
  refine lv_iload_n hx hb dX9_of_0 rfl (lv_at hl 1 rfl) ?_
  refine lv_iload_n hx hb dX9_of_1 rfl (lv_at hl 2 rfl) ?_
  refine vp_callSi (W.runS (As := [.int a1, .int a2]) (rest := []) ⟨hx, hb, hml, hown, hts⟩ (qkX9_isLong l dC dI a1 a2) (va_cwS 2 hts qgX9_of__X9_isLong_S318 rfl rfl rfl (by decide +kernel) ⟨lel 2 2 rfl, lel 43 47 rfl⟩) ⟨pn_fb, pn_use⟩ rfl rfl hl.1 rfl (lv_room (Nat.le_of_ble_eq_true rfl)) dX9_of_2 ⟨lel 0 0 rfl, lel 0 0 rfl⟩) (fun r_1 hr_1 => ?_)
  refine lv_if_eq (tgt := 19) hx hb dX9_of_5 (by decide) (fun c_2 => ?_) (fun c_2 => ?_)
  ·
    refine lv_ldc2 (v := (-2)) hx hb hown (hts (.constantLong RX9 265 (-2)) (List.mem_of_getElem? (i := 8) rfl)) dX9_of_19 ?_
    have hP9 := hP.sub (ws' := [(h0, .inr (7, [.ref tp, .ref sc, .ref rd, .ref cu, .ref im, .ref ig, .ref sl, .ref se, .ref su, .ref fc])), (su, .inr (5, [.ref wa])), (wa, .inl (cJ, 181, .inr (.inl f)))]) [0, 1, 2] rfl
    have hD9 := hD.sub (ws' := [(h0, .inr (7, [.ref tp, .ref sc, .ref rd, .ref cu, .ref im, .ref ig, .ref sl, .ref se, .ref su, .ref fc])), (su, .inr (5, [.ref wa])), (wa, .inl (cJ, 181, .inr (.inl f)))]) [0, 1, 2] (by decide) rfl
    have hK9 := hK.sub (tys' := [(cJ, .long)]) [0] rfl
    exact W.lret (v := (-2)) hx hb hr (fun t ht hW => ⟨⟨(-2), (), rfl, of_a (hr_1.symm.trans c_2), f, by rw [ht]; exact hP9, va_K.moved hW.alike hK9, hD9⟩, hS.F ht⟩) hS.2.2 dX9_of_22
  ·
    refine lv_iload_n hx hb dX9_of_8 rfl (lv_at hl 3 rfl) ?_
    refine lv_iconst (v := 0) hx hb dX9_of_9 (by decide) ?_
    refine lv_sipush (v := 180) hx hb dX9_of_10 (by decide) ?_
    refine vp_callSi (W.runS (As := [.int a3, .int 0, .int 180]) (rest := []) ⟨hx, hb, hml, hown, hts⟩ (qkX9_isWithin l dC dI a3 0 180) (va_cwS 3 hts qgX9_of__X9_isWithin_S158 rfl rfl rfl (by decide +kernel) ⟨lel 1 2 rfl, lel 22 47 rfl⟩) ⟨pn_fb, pn_use⟩ rfl rfl hl.1 rfl (lv_room (Nat.le_of_ble_eq_true rfl)) dX9_of_13 ⟨lel 0 0 rfl, lel 0 0 rfl⟩) (fun r_3 hr_3 => ?_)
    refine lv_if_ne (tgt := 23) hx hb dX9_of_16 (by decide) (fun c_4 => ?_) (fun c_4 => ?_)
    ·
      have hil : ¬ il a1 a2 = 0 := fun e => c_2 (hr_1.trans e)
      have hth : ¬ wi a3 0 180 = 0 := fun e => c_4 (hr_3.trans e)
      obtain ⟨nn, bb, hn1, hn2, hb2, hb3, rfl, rfl⟩ := il_yes hil
      obtain ⟨qq, hq, rfl⟩ := wi_180 hth
      refine lv_aload_n hx hb dX9_of_23 rfl (lv_at hl 0 rfl) ?_
      refine va_get (D := (dC, dI)) (ci := 7) (v := .ref su) (C := RX9) (T := TX9) (N := 10) hx hb hts qiX9_of_X9 hown hK hP 0 rfl rfl 8 (by decide) (hts (.fieldLink RX9 64 "LuckyTicket" "sumTable" "LLuckyTicket$SumTable;") (List.mem_of_getElem? (i := 9) rfl)) (fun _ h9 => h9) rfl dX9_of_24 ?_
      refine lv_iload_n hx hb dX9_of_27 rfl (lv_at hl 1 rfl) ?_
      refine lv_iload_n hx hb dX9_of_28 rfl (lv_at hl 2 rfl) ?_
      have hFc := va_free (wc := [(su, .inr (5, [.ref wa])), (wa, .inl (cJ, 181, .inr (.inl f)))]) hD hS hA [1, 2] rfl
      refine va_callv (va_runV (As := [.int (nI nn), .int (nI bb)]) (rest := []) ⟨hx, hb, hml, hown, hts⟩ (qkX6_fill l dC dI su wa cJ f nn bb (s.heap.size) (by omega) (by omega) (by omega)) (cwV 2 hts qgX9_of__X6_fill_V321 rfl rfl rfl (by decide +kernel) ⟨lel 2 2 rfl, lel 47 47 rfl⟩) ⟨hw_fb, va_recv hK hP (ci := 5) (q0 := 1) rfl rfl, (hw_use hP hD hK hN [1, 2] rfl (by decide) rfl [0] rfl)⟩ rfl rfl hl.1 rfl (lv_room (Nat.le_of_ble_eq_true rfl)) dX9_of_29 ⟨lel 0 0 rfl, lel 0 0 rfl⟩) hS (fun q _ h => hFc q h) hFc (fun u_6 t H1 locs ht hvm hwr_5 hB hz1 hk1 hS => ?_)
      obtain ⟨f2_7, hf_8, hP1, hK1, hD1⟩ := hB
      rw [ht] at hP1
      have hK1 := va_K.moved hvm.symm hK1
      obtain ⟨hP, hD⟩ := va_join (wr := [(h0, .inr (7, [.ref tp, .ref sc, .ref rd, .ref cu, .ref im, .ref ig, .ref sl, .ref se, .ref su, .ref fc]))]) (w1 := [(su, .inr (5, [.ref wa])), (wa, .inl (cJ, 181, .inr (.inl f2_7)))]) hP hD [1, 2] [0] rfl rfl (by decide) (by decide) hk1 hFc hP1 hD1
      have hK := (hK.sub (tys' := []) [] rfl).app hK1
      generalize H1 = H at hP hS ⊢
      have hP : va_P (dC, dI) vwCl [(h0, .inr (7, [.ref tp, .ref sc, .ref rd, .ref cu, .ref im, .ref ig, .ref sl, .ref se, .ref su, .ref fc])), (su, .inr (5, [.ref wa])), (wa, .inl (cJ, 181, .inr (.inl f2_7)))] H := hP
      have hD : va_D A [(h0, .inr (7, [.ref tp, .ref sc, .ref rd, .ref cu, .ref im, .ref ig, .ref sl, .ref se, .ref su, .ref fc])), (su, .inr (5, [.ref wa])), (wa, .inl (cJ, 181, .inr (.inl f2_7)))] := hD
      have hK : va_K (dC, dI) vwCl [(cJ, .long)] s := hK
      refine lv_aload_n hx hb dX9_of_32 rfl (lv_at hl 0 rfl) ?_
      refine va_get (D := (dC, dI)) (ci := 7) (v := .ref su) (C := RX9) (T := TX9) (N := 10) hx hb hts qiX9_of_X9 hown hK hP 0 rfl rfl 8 (by decide) (hts (.fieldLink RX9 64 "LuckyTicket" "sumTable" "LLuckyTicket$SumTable;") (List.mem_of_getElem? (i := 9) rfl)) (fun _ h9 => h9) rfl dX9_of_33 ?_
      refine lv_iload_n hx hb dX9_of_36 rfl (lv_at hl 3 rfl) ?_
      refine vp_callSl (W.runV (As := [.int (nI qq)]) (rest := []) ⟨hx, hb, hml, hown, hts⟩ (qkX6_waysTo l dC dI su wa cJ f2_7 (nI qq)) (cwV 1 hts qgX9_of__X6_waysTo_V324 rfl rfl rfl (by decide +kernel) ⟨lel 1 2 rfl, lel 21 47 rfl⟩) ⟨pw_fb, va_recv hK hP (ci := 5) (q0 := 1) rfl rfl, (pw_use hP hK hN [1, 2] rfl [0] rfl)⟩ rfl rfl hl.1 rfl (lv_room (Nat.le_of_ble_eq_true rfl)) dX9_of_37 ⟨lel 0 0 rfl, lel 0 0 rfl⟩) (fun r_9 hr_9 => ?_)
      have hP9 := hP.sub (ws' := [(h0, .inr (7, [.ref tp, .ref sc, .ref rd, .ref cu, .ref im, .ref ig, .ref sl, .ref se, .ref su, .ref fc])), (su, .inr (5, [.ref wa])), (wa, .inl (cJ, 181, .inr (.inl f2_7)))]) [0, 1, 2] rfl
      have hD9 := hD.sub (ws' := [(h0, .inr (7, [.ref tp, .ref sc, .ref rd, .ref cu, .ref im, .ref ig, .ref sl, .ref se, .ref su, .ref fc])), (su, .inr (5, [.ref wa])), (wa, .inl (cJ, 181, .inr (.inl f2_7)))]) [0, 1, 2] (by decide) rfl
      have hK9 := hK.sub (tys' := [(cJ, .long)]) [0] rfl
      exact W.lret (v := r_9) hx hb hr (fun t ht hW => ⟨⟨r_9, (), rfl, of_c hil hth hn2 hb3 hq (hr_9.trans (wt_nat hq hf_8)), f2_7, by rw [ht]; exact hP9, va_K.moved hW.alike hK9, hD9⟩, hS.F ht⟩) hS.2.2 dX9_of_40
    ·
      refine lv_ldc2 (v := (-2)) hx hb hown (hts (.constantLong RX9 265 (-2)) (List.mem_of_getElem? (i := 8) rfl)) dX9_of_19 ?_
      have hP9 := hP.sub (ws' := [(h0, .inr (7, [.ref tp, .ref sc, .ref rd, .ref cu, .ref im, .ref ig, .ref sl, .ref se, .ref su, .ref fc])), (su, .inr (5, [.ref wa])), (wa, .inl (cJ, 181, .inr (.inl f)))]) [0, 1, 2] rfl
      have hD9 := hD.sub (ws' := [(h0, .inr (7, [.ref tp, .ref sc, .ref rd, .ref cu, .ref im, .ref ig, .ref sl, .ref se, .ref su, .ref fc])), (su, .inr (5, [.ref wa])), (wa, .inl (cJ, 181, .inr (.inl f)))]) [0, 1, 2] (by decide) rfl
      have hK9 := hK.sub (tys' := [(cJ, .long)]) [0] rfl
      exact W.lret (v := (-2)) hx hb hr (fun t ht hW => ⟨⟨(-2), (), rfl, of_b (hr_3.symm.trans c_4), f, by rw [ht]; exact hP9, va_K.moved hW.alike hK9, hD9⟩, hS.F ht⟩) hS.2.2 dX9_of_22
def quX9_middle : List Cond := List.cons (.code yX9_middle cX9_middle 3 (some .long)) (HAppend.hAppend (HAppend.hAppend ([.methodLink RX9 318 yX9_isLong, .static yX9_isLong, .initialized RX9, .code yX9_isLong cX9_isLong 2 (some .boolean), .methodLink RX9 158 yX9_isWithin, .static yX9_isWithin, .code yX9_isWithin cX9_isWithin 3 (some .boolean), .fieldLink RX9 64 "LuckyTicket" "sumTable" "LLuckyTicket$SumTable;", .methodLink RX9 321 yX6_fill, .instanceMethod yX6_fill, .selects RX6 yX6_fill yX6_fill, .initialized RX6, .code yX6_fill cX6_fill 4 none, .fieldLink RX6 9 "LuckyTicket$SumTable" "ways" "[J", .methodLink RX6 13 yJ7_fill_d0a16, .static yJ7_fill_d0a16, .initialized RJ7, .code yJ7_fill_d0a16 cJ7_fill_d0a16 5 none, .methodLink RX6 19 yX6_addPlace, .instanceMethod yX6_addPlace, .selects RX6 yX6_addPlace yX6_addPlace, .code yX6_addPlace cX6_addPlace 3 none, .methodLink RX9 324 yX6_waysTo, .instanceMethod yX6_waysTo, .selects RX6 yX6_waysTo yX6_waysTo, .code yX6_waysTo cX6_waysTo 2 (some .long), .constantLong RX9 265 (-2)] : List Cond) wsX90) wsX60)
theorem qiX9_middle_X9 : ∀ w ∈ wsX90, w ∈ quX9_middle := fun _ h => List.mem_cons_of_mem _ (List.mem_append_left _ (List.mem_append_right _ h))
theorem qiX9_middle_X6 : ∀ w ∈ wsX60, w ∈ quX9_middle := fun _ h => List.mem_cons_of_mem _ (List.mem_append_right _ h)
set_option maxRecDepth 20000 in
theorem qgX9_middle__X9_isLong_S318 : GoodIn quX9_middle (va_wsS RX9 318 yX9_isLong quX9_isLong) := goodIn_p _ [4, 7] rfl (by decide +kernel)
set_option maxRecDepth 20000 in
theorem qgX9_middle__X6_fill_V321 : GoodIn quX9_middle (wsV RX9 321 RX6 yX6_fill quX6_fill) := goodIn_p _ [13, 18, 22] rfl (by decide +kernel)
set_option maxRecDepth 20000 in
theorem qgX9_middle__X6_waysTo_V324 : GoodIn quX9_middle (wsV RX9 324 RX6 yX6_waysTo quX6_waysTo) := goodIn_p _ [26] rfl (by decide +kernel)
set_option maxHeartbeats 4000000 in
set_option maxRecDepth 100000 in
theorem qkX9_middle (l : Launch) (dC : Nat → ClassId) (dI : Nat → Nat → Nat) (h0 : Nat) (tp : Nat) (sc : Nat) (rd : Nat) (cu : Nat) (im : Nat) (ig : Nat) (sl : Nat) (se : Nat) (su : Nat) (fc : Nat) (wa : Nat) (cJ : ClassId) (f : Nat → Int64) (a1 : Int32) (a2 : Int32) (sz : Nat) : Met l yX9_middle quX9_middle ({ frames := 2, cells := 0, slots := 0, locals := 47 }) (va_Pc [.ref h0, .int a1, .int a2] (hw (dC, dI) vwCl [(h0, .inr (7, [.ref tp, .ref sc, .ref rd, .ref cu, .ref im, .ref ig, .ref sl, .ref se, .ref su, .ref fc])), (su, .inr (5, [.ref wa])), (wa, .inl (cJ, 181, .inr (.inl f)))] [(cJ, .long)] sz)) (va_Ql (fun (r : Int64) (_ : Unit) => r = mdv a1 a2) (fun (_ : Unit) t => ∃ (f2 : Nat → Int64), va_P (dC, dI) vwCl [(h0, .inr (7, [.ref tp, .ref sc, .ref rd, .ref cu, .ref im, .ref ig, .ref sl, .ref se, .ref su, .ref fc])), (su, .inr (5, [.ref wa])), (wa, .inl (cJ, 181, .inr (.inl f2)))] t.heap ∧ va_K (dC, dI) vwCl [(cJ, .long)] t ∧ va_D (va_A [(h0, .inr (7, [.ref tp, .ref sc, .ref rd, .ref cu, .ref im, .ref ig, .ref sl, .ref se, .ref su, .ref fc])), (su, .inr (5, [.ref wa])), (wa, .inl (cJ, 181, .inr (.inl f)))] sz) [(h0, .inr (7, [.ref tp, .ref sc, .ref rd, .ref cu, .ref im, .ref ig, .ref sl, .ref se, .ref su, .ref fc])), (su, .inr (5, [.ref wa])), (wa, .inl (cJ, 181, .inr (.inl f2)))]) (va_A [(h0, .inr (7, [.ref tp, .ref sc, .ref rd, .ref cu, .ref im, .ref ig, .ref sl, .ref se, .ref su, .ref fc])), (su, .inr (5, [.ref wa])), (wa, .inl (cJ, 181, .inr (.inl f)))] sz)) 0 0 (va_A [(h0, .inr (7, [.ref tp, .ref sc, .ref rd, .ref cu, .ref im, .ref ig, .ref sl, .ref se, .ref su, .ref fc])), (su, .inr (5, [.ref wa])), (wa, .inl (cJ, 181, .inr (.inl f)))] sz) := by
  refine Met.ofW (cc := cX9_middle) (maxL := 3) (ret := (some .long)) (by decide) rfl ?_
  intro p e s m args below meth c s₁ B hml hv
  obtain ⟨rfl, hsz, hP, hK, hD0, hN⟩ := hv
  have hx := B.exec
  have hb := B.bytes
  have hr := B.returns
  have hts := atoms_spec (ws := quX9_middle) B.pre
  have hown : s.vm.findClass RX9 = some m.cls := findClass_of_methodNamed B.named
  have hlocks := B.notSynchronized
  subst hsz
  have hD := hD0.self (sz := s.heap.size)
  generalize hAe : va_A [(h0, .inr (7, [.ref tp, .ref sc, .ref rd, .ref cu, .ref im, .ref ig, .ref sl, .ref se, .ref su, .ref fc])), (su, .inr (5, [.ref wa])), (wa, .inl (cJ, 181, .inr (.inl f)))] s.heap.size = A at hD ⊢
  have hA : ∀ q : Nat, s.heap.size ≤ q → A q := fun q h => by rw [← hAe]; exact Or.inr h
  have hS : va_S A s.heap s.heap [] := va_S.rf
  have hP : va_P (dC, dI) vwCl [(h0, .inr (7, [.ref tp, .ref sc, .ref rd, .ref cu, .ref im, .ref ig, .ref sl, .ref se, .ref su, .ref fc])), (su, .inr (5, [.ref wa])), (wa, .inl (cJ, 181, .inr (.inl f)))] s.heap := hP
  have hl := lv_entry ([.ref h0, .int a1, .int a2]) (n := 3) (Nat.le_of_ble_eq_true rfl)
  rw [lg_entry_eq]
  generalize (lg_sl ([.ref h0, .int a1, .int a2]) ++ List.replicate (3 - (lg_sl ([.ref h0, .int a1, .int a2])).length) Slot.unset).toArray = ls at hl ⊢
  have hl : lv_has ls 3 [(0, .ref h0), (1, .int a1), (2, .int a2)] := hl
  refine lv_iload_n hx hb dX9_middle_0 rfl (lv_at hl 1 rfl) ?_
  refine lv_iload_n hx hb dX9_middle_1 rfl (lv_at hl 2 rfl) ?_
  refine vp_callSi (W.runS (As := [.int a1, .int a2]) (rest := []) ⟨hx, hb, hml, hown, hts⟩ (qkX9_isLong l dC dI a1 a2) (va_cwS 2 hts qgX9_middle__X9_isLong_S318 rfl rfl rfl (by decide +kernel) ⟨lel 2 2 rfl, lel 43 47 rfl⟩) ⟨pn_fb, pn_use⟩ rfl rfl hl.1 rfl (lv_room (Nat.le_of_ble_eq_true rfl)) dX9_middle_2 ⟨lel 0 0 rfl, lel 0 0 rfl⟩) (fun r_1 hr_1 => ?_)
  refine lv_if_ne (tgt := 12) hx hb dX9_middle_5 (by decide) (fun c_2 => ?_) (fun c_2 => ?_)
  ·
    have hil : ¬ il a1 a2 = 0 := fun e => c_2 (hr_1.trans e)
    obtain ⟨nn, bb, hn1, hn2, hb2, hb3, rfl, rfl⟩ := il_yes hil
    refine lv_aload_n hx hb dX9_middle_12 rfl (lv_at hl 0 rfl) ?_
    refine va_get (D := (dC, dI)) (ci := 7) (v := .ref su) (C := RX9) (T := TX9) (N := 10) hx hb hts qiX9_middle_X9 hown hK hP 0 rfl rfl 8 (by decide) (hts (.fieldLink RX9 64 "LuckyTicket" "sumTable" "LLuckyTicket$SumTable;") (List.mem_of_getElem? (i := 8) rfl)) (fun _ h9 => h9) rfl dX9_middle_13 ?_
    refine lv_iload_n hx hb dX9_middle_16 rfl (lv_at hl 1 rfl) ?_
    refine lv_iload_n hx hb dX9_middle_17 rfl (lv_at hl 2 rfl) ?_
    have hFc := va_free (wc := [(su, .inr (5, [.ref wa])), (wa, .inl (cJ, 181, .inr (.inl f)))]) hD hS hA [1, 2] rfl
    refine va_callv (va_runV (As := [.int (nI nn), .int (nI bb)]) (rest := []) ⟨hx, hb, hml, hown, hts⟩ (qkX6_fill l dC dI su wa cJ f nn bb (s.heap.size) (by omega) (by omega) (by omega)) (cwV 2 hts qgX9_middle__X6_fill_V321 rfl rfl rfl (by decide +kernel) ⟨lel 2 2 rfl, lel 47 47 rfl⟩) ⟨hw_fb, va_recv hK hP (ci := 5) (q0 := 1) rfl rfl, (hw_use hP hD hK hN [1, 2] rfl (by decide) rfl [0] rfl)⟩ rfl rfl hl.1 rfl (lv_room (Nat.le_of_ble_eq_true rfl)) dX9_middle_18 ⟨lel 0 0 rfl, lel 0 0 rfl⟩) hS (fun q _ h => hFc q h) hFc (fun u_4 t H1 locs ht hvm hwr_3 hB hz1 hk1 hS => ?_)
    obtain ⟨f2_5, hf_6, hP1, hK1, hD1⟩ := hB
    rw [ht] at hP1
    have hK1 := va_K.moved hvm.symm hK1
    obtain ⟨hP, hD⟩ := va_join (wr := [(h0, .inr (7, [.ref tp, .ref sc, .ref rd, .ref cu, .ref im, .ref ig, .ref sl, .ref se, .ref su, .ref fc]))]) (w1 := [(su, .inr (5, [.ref wa])), (wa, .inl (cJ, 181, .inr (.inl f2_5)))]) hP hD [1, 2] [0] rfl rfl (by decide) (by decide) hk1 hFc hP1 hD1
    have hK := (hK.sub (tys' := []) [] rfl).app hK1
    generalize H1 = H at hP hS ⊢
    have hP : va_P (dC, dI) vwCl [(h0, .inr (7, [.ref tp, .ref sc, .ref rd, .ref cu, .ref im, .ref ig, .ref sl, .ref se, .ref su, .ref fc])), (su, .inr (5, [.ref wa])), (wa, .inl (cJ, 181, .inr (.inl f2_5)))] H := hP
    have hD : va_D A [(h0, .inr (7, [.ref tp, .ref sc, .ref rd, .ref cu, .ref im, .ref ig, .ref sl, .ref se, .ref su, .ref fc])), (su, .inr (5, [.ref wa])), (wa, .inl (cJ, 181, .inr (.inl f2_5)))] := hD
    have hK : va_K (dC, dI) vwCl [(cJ, .long)] s := hK
    refine lv_aload_n hx hb dX9_middle_21 rfl (lv_at hl 0 rfl) ?_
    refine va_get (D := (dC, dI)) (ci := 7) (v := .ref su) (C := RX9) (T := TX9) (N := 10) hx hb hts qiX9_middle_X9 hown hK hP 0 rfl rfl 8 (by decide) (hts (.fieldLink RX9 64 "LuckyTicket" "sumTable" "LLuckyTicket$SumTable;") (List.mem_of_getElem? (i := 8) rfl)) (fun _ h9 => h9) rfl dX9_middle_22 ?_
    refine lv_iload_n hx hb dX9_middle_25 rfl (lv_at hl 2 rfl) ?_
    refine lv_iconst (v := 1) hx hb dX9_middle_26 (by decide) ?_
    refine lv_isub hx hb dX9_middle_27 ?_
    refine lv_topi (fun z_7 ez_7 => ?_)
    obtain rfl : z_7 = nI (bb - 1) := ez_7.trans (pk_sub (a := bb) (b := 1) (by omega))
    refine lv_iload_n hx hb dX9_middle_28 rfl (lv_at hl 1 rfl) ?_
    refine lv_imul hx hb dX9_middle_29 ?_
    refine lv_topi (fun z_8 ez_8 => ?_)
    obtain rfl : z_8 = nI ((bb - 1) * nn) := ez_8.trans (pk_mul (bb - 1) nn)
    have hml9 := mid_lt hn2 hb3
    refine lv_iconst (v := 2) hx hb dX9_middle_30 (by decide) ?_
    refine lv_idiv hx hb dX9_middle_31 (by decide) ?_
    refine lv_topi (fun z_9 ez_9 => ?_)
    obtain rfl : z_9 = nI (((bb - 1) * nn) / 2) := ez_9.trans (pk_div (a := (bb - 1) * nn) (d := 2) (by omega) (by omega) (by omega))
    refine vp_callSl (W.runV (As := [.int (nI (((bb - 1) * nn) / 2))]) (rest := []) ⟨hx, hb, hml, hown, hts⟩ (qkX6_waysTo l dC dI su wa cJ f2_5 (nI (((bb - 1) * nn) / 2))) (cwV 1 hts qgX9_middle__X6_waysTo_V324 rfl rfl rfl (by decide +kernel) ⟨lel 1 2 rfl, lel 21 47 rfl⟩) ⟨pw_fb, va_recv hK hP (ci := 5) (q0 := 1) rfl rfl, (pw_use hP hK hN [1, 2] rfl [0] rfl)⟩ rfl rfl hl.1 rfl (lv_room (Nat.le_of_ble_eq_true rfl)) dX9_middle_32 ⟨lel 0 0 rfl, lel 0 0 rfl⟩) (fun r_10 hr_10 => ?_)
    have hP9 := hP.sub (ws' := [(h0, .inr (7, [.ref tp, .ref sc, .ref rd, .ref cu, .ref im, .ref ig, .ref sl, .ref se, .ref su, .ref fc])), (su, .inr (5, [.ref wa])), (wa, .inl (cJ, 181, .inr (.inl f2_5)))]) [0, 1, 2] rfl
    have hD9 := hD.sub (ws' := [(h0, .inr (7, [.ref tp, .ref sc, .ref rd, .ref cu, .ref im, .ref ig, .ref sl, .ref se, .ref su, .ref fc])), (su, .inr (5, [.ref wa])), (wa, .inl (cJ, 181, .inr (.inl f2_5)))]) [0, 1, 2] (by decide) rfl
    have hK9 := hK.sub (tys' := [(cJ, .long)]) [0] rfl
    exact W.lret (v := r_10) hx hb hr (fun t ht hW => ⟨⟨r_10, (), rfl, md_c hil hn2 hb3 (hr_10.trans (wt_nat (mid_le hn2 hb3) hf_6)), f2_5, by rw [ht]; exact hP9, va_K.moved hW.alike hK9, hD9⟩, hS.F ht⟩) hS.2.2 dX9_middle_35
  ·
    refine lv_ldc2 (v := (-2)) hx hb hown (hts (.constantLong RX9 265 (-2)) (List.mem_of_getElem? (i := 27) rfl)) dX9_middle_8 ?_
    have hP9 := hP.sub (ws' := [(h0, .inr (7, [.ref tp, .ref sc, .ref rd, .ref cu, .ref im, .ref ig, .ref sl, .ref se, .ref su, .ref fc])), (su, .inr (5, [.ref wa])), (wa, .inl (cJ, 181, .inr (.inl f)))]) [0, 1, 2] rfl
    have hD9 := hD.sub (ws' := [(h0, .inr (7, [.ref tp, .ref sc, .ref rd, .ref cu, .ref im, .ref ig, .ref sl, .ref se, .ref su, .ref fc])), (su, .inr (5, [.ref wa])), (wa, .inl (cJ, 181, .inr (.inl f)))]) [0, 1, 2] (by decide) rfl
    have hK9 := hK.sub (tys' := [(cJ, .long)]) [0] rfl
    exact W.lret (v := (-2)) hx hb hr (fun t ht hW => ⟨⟨(-2), (), rfl, md_a (hr_1.symm.trans c_2), f, by rw [ht]; exact hP9, va_K.moved hW.alike hK9, hD9⟩, hS.F ht⟩) hS.2.2 dX9_middle_11
def quX9_halves : List Cond := List.cons (.code yX9_halves cX9_halves 6 (some .long)) (HAppend.hAppend (HAppend.hAppend ([.methodLink RX9 318 yX9_isLong, .static yX9_isLong, .initialized RX9, .code yX9_isLong cX9_isLong 2 (some .boolean), .methodLink RX9 158 yX9_isWithin, .static yX9_isWithin, .code yX9_isWithin cX9_isWithin 3 (some .boolean), .constantLong RX9 265 (-2), .fieldLink RX9 64 "LuckyTicket" "sumTable" "LLuckyTicket$SumTable;", .methodLink RX9 321 yX6_fill, .instanceMethod yX6_fill, .selects RX6 yX6_fill yX6_fill, .initialized RX6, .code yX6_fill cX6_fill 4 none, .fieldLink RX6 9 "LuckyTicket$SumTable" "ways" "[J", .methodLink RX6 13 yJ7_fill_d0a16, .static yJ7_fill_d0a16, .initialized RJ7, .code yJ7_fill_d0a16 cJ7_fill_d0a16 5 none, .methodLink RX6 19 yX6_addPlace, .instanceMethod yX6_addPlace, .selects RX6 yX6_addPlace yX6_addPlace, .code yX6_addPlace cX6_addPlace 3 none, .methodLink RX9 324 yX6_waysTo, .instanceMethod yX6_waysTo, .selects RX6 yX6_waysTo yX6_waysTo, .code yX6_waysTo cX6_waysTo 2 (some .long)] : List Cond) wsX90) wsX60)
theorem qiX9_halves_X9 : ∀ w ∈ wsX90, w ∈ quX9_halves := fun _ h => List.mem_cons_of_mem _ (List.mem_append_left _ (List.mem_append_right _ h))
theorem qiX9_halves_X6 : ∀ w ∈ wsX60, w ∈ quX9_halves := fun _ h => List.mem_cons_of_mem _ (List.mem_append_right _ h)
set_option maxRecDepth 20000 in
theorem qgX9_halves__X9_isLong_S318 : GoodIn quX9_halves (va_wsS RX9 318 yX9_isLong quX9_isLong) := goodIn_p _ [4, 7] rfl (by decide +kernel)
set_option maxRecDepth 20000 in
theorem qgX9_halves__X6_fill_V321 : GoodIn quX9_halves (wsV RX9 321 RX6 yX6_fill quX6_fill) := goodIn_p _ [14, 19, 23] rfl (by decide +kernel)
set_option maxRecDepth 20000 in
theorem qgX9_halves__X6_waysTo_V324 : GoodIn quX9_halves (wsV RX9 324 RX6 yX6_waysTo quX6_waysTo) := goodIn_p _ [27] rfl (by decide +kernel)
set_option maxHeartbeats 4000000 in
set_option maxRecDepth 100000 in
theorem qkX9_halves (l : Launch) (dC : Nat → ClassId) (dI : Nat → Nat → Nat) (h0 : Nat) (tp : Nat) (sc : Nat) (rd : Nat) (cu : Nat) (im : Nat) (ig : Nat) (sl : Nat) (se : Nat) (su : Nat) (fc : Nat) (wa : Nat) (cJ : ClassId) (f : Nat → Int64) (a1 : Int32) (a2 : Int32) (sz : Nat) : Met l yX9_halves quX9_halves ({ frames := 2, cells := 0, slots := 0, locals := 47 }) (va_Pc [.ref h0, .int a1, .int a2] (hw (dC, dI) vwCl [(h0, .inr (7, [.ref tp, .ref sc, .ref rd, .ref cu, .ref im, .ref ig, .ref sl, .ref se, .ref su, .ref fc])), (su, .inr (5, [.ref wa])), (wa, .inl (cJ, 181, .inr (.inl f)))] [(cJ, .long)] sz)) (va_Ql (fun (r : Int64) (_ : Unit) => r = hvv a1 a2) (fun (_ : Unit) t => ∃ (f2 : Nat → Int64), va_P (dC, dI) vwCl [(h0, .inr (7, [.ref tp, .ref sc, .ref rd, .ref cu, .ref im, .ref ig, .ref sl, .ref se, .ref su, .ref fc])), (su, .inr (5, [.ref wa])), (wa, .inl (cJ, 181, .inr (.inl f2)))] t.heap ∧ va_K (dC, dI) vwCl [(cJ, .long)] t ∧ va_D (va_A [(h0, .inr (7, [.ref tp, .ref sc, .ref rd, .ref cu, .ref im, .ref ig, .ref sl, .ref se, .ref su, .ref fc])), (su, .inr (5, [.ref wa])), (wa, .inl (cJ, 181, .inr (.inl f)))] sz) [(h0, .inr (7, [.ref tp, .ref sc, .ref rd, .ref cu, .ref im, .ref ig, .ref sl, .ref se, .ref su, .ref fc])), (su, .inr (5, [.ref wa])), (wa, .inl (cJ, 181, .inr (.inl f2)))]) (va_A [(h0, .inr (7, [.ref tp, .ref sc, .ref rd, .ref cu, .ref im, .ref ig, .ref sl, .ref se, .ref su, .ref fc])), (su, .inr (5, [.ref wa])), (wa, .inl (cJ, 181, .inr (.inl f)))] sz)) 0 0 (va_A [(h0, .inr (7, [.ref tp, .ref sc, .ref rd, .ref cu, .ref im, .ref ig, .ref sl, .ref se, .ref su, .ref fc])), (su, .inr (5, [.ref wa])), (wa, .inl (cJ, 181, .inr (.inl f)))] sz) := by
  refine Met.ofW (cc := cX9_halves) (maxL := 6) (ret := (some .long)) (by decide) rfl ?_
  intro p e s m args below meth c s₁ B hml hv
  obtain ⟨rfl, hsz, hP, hK, hD0, hN⟩ := hv
  have hx := B.exec
  have hb := B.bytes
  have hr := B.returns
  have hts := atoms_spec (ws := quX9_halves) B.pre
  have hown : s.vm.findClass RX9 = some m.cls := findClass_of_methodNamed B.named
  have hlocks := B.notSynchronized
  subst hsz
  have hD := hD0.self (sz := s.heap.size)
  generalize hAe : va_A [(h0, .inr (7, [.ref tp, .ref sc, .ref rd, .ref cu, .ref im, .ref ig, .ref sl, .ref se, .ref su, .ref fc])), (su, .inr (5, [.ref wa])), (wa, .inl (cJ, 181, .inr (.inl f)))] s.heap.size = A at hD ⊢
  have hA : ∀ q : Nat, s.heap.size ≤ q → A q := fun q h => by rw [← hAe]; exact Or.inr h
  have hS : va_S A s.heap s.heap [] := va_S.rf
  have hP : va_P (dC, dI) vwCl [(h0, .inr (7, [.ref tp, .ref sc, .ref rd, .ref cu, .ref im, .ref ig, .ref sl, .ref se, .ref su, .ref fc])), (su, .inr (5, [.ref wa])), (wa, .inl (cJ, 181, .inr (.inl f)))] s.heap := hP
  have hl := lv_entry ([.ref h0, .int a1, .int a2]) (n := 6) (Nat.le_of_ble_eq_true rfl)
  rw [lg_entry_eq]
  generalize (lg_sl ([.ref h0, .int a1, .int a2]) ++ List.replicate (6 - (lg_sl ([.ref h0, .int a1, .int a2])).length) Slot.unset).toArray = ls at hl ⊢
  have hl : lv_has ls 6 [(0, .ref h0), (1, .int a1), (2, .int a2)] := hl
  refine lv_iload_n hx hb dX9_halves_0 rfl (lv_at hl 1 rfl) ?_
  refine lv_iload_n hx hb dX9_halves_1 rfl (lv_at hl 2 rfl) ?_
  refine vp_callSi (W.runS (As := [.int a1, .int a2]) (rest := []) ⟨hx, hb, hml, hown, hts⟩ (qkX9_isLong l dC dI a1 a2) (va_cwS 2 hts qgX9_halves__X9_isLong_S318 rfl rfl rfl (by decide +kernel) ⟨lel 2 2 rfl, lel 43 47 rfl⟩) ⟨pn_fb, pn_use⟩ rfl rfl hl.1 rfl (lv_room (Nat.le_of_ble_eq_true rfl)) dX9_halves_2 ⟨lel 0 0 rfl, lel 0 0 rfl⟩) (fun r_1 hr_1 => ?_)
  refine lv_if_eq (tgt := 14) hx hb dX9_halves_5 (by decide) (fun c_2 => ?_) (fun c_2 => ?_)
  ·
    refine lv_ldc2 (v := (-2)) hx hb hown (hts (.constantLong RX9 265 (-2)) (List.mem_of_getElem? (i := 8) rfl)) dX9_halves_14 ?_
    have hP9 := hP.sub (ws' := [(h0, .inr (7, [.ref tp, .ref sc, .ref rd, .ref cu, .ref im, .ref ig, .ref sl, .ref se, .ref su, .ref fc])), (su, .inr (5, [.ref wa])), (wa, .inl (cJ, 181, .inr (.inl f)))]) [0, 1, 2] rfl
    have hD9 := hD.sub (ws' := [(h0, .inr (7, [.ref tp, .ref sc, .ref rd, .ref cu, .ref im, .ref ig, .ref sl, .ref se, .ref su, .ref fc])), (su, .inr (5, [.ref wa])), (wa, .inl (cJ, 181, .inr (.inl f)))]) [0, 1, 2] (by decide) rfl
    have hK9 := hK.sub (tys' := [(cJ, .long)]) [0] rfl
    exact W.lret (v := (-2)) hx hb hr (fun t ht hW => ⟨⟨(-2), (), rfl, hv_a (hr_1.symm.trans c_2), f, by rw [ht]; exact hP9, va_K.moved hW.alike hK9, hD9⟩, hS.F ht⟩) hS.2.2 dX9_halves_17
  ·
    have hil : ¬ il a1 a2 = 0 := fun e => c_2 (hr_1.trans e)
    obtain ⟨nn, bb, hn1, hn2, hb2, hb3, rfl, rfl⟩ := il_yes hil
    refine lv_iload_n hx hb dX9_halves_8 rfl (lv_at hl 1 rfl) ?_
    refine lv_iconst (v := 2) hx hb dX9_halves_9 (by decide) ?_
    refine lv_irem hx hb dX9_halves_10 (by decide) ?_
    refine lv_topi (fun z_3 ez_3 => ?_)
    obtain rfl : z_3 = nI (nn % 2) := ez_3.trans (pk_rem (a := nn) (d := 2) (by omega) (by omega) (by omega))
    refine lv_if_eq (tgt := 18) hx hb dX9_halves_11 (by decide) (fun c_4 => ?_) (fun c_4 => ?_)
    ·
      have nc_4 : nn % 2 = 0 := (nI_eq (a := nn % 2) (b := 0) (by omega) (by omega)).mp c_4
      refine lv_aload_n hx hb dX9_halves_18 rfl (lv_at hl 0 rfl) ?_
      refine va_get (D := (dC, dI)) (ci := 7) (v := .ref su) (C := RX9) (T := TX9) (N := 10) hx hb hts qiX9_halves_X9 hown hK hP 0 rfl rfl 8 (by decide) (hts (.fieldLink RX9 64 "LuckyTicket" "sumTable" "LLuckyTicket$SumTable;") (List.mem_of_getElem? (i := 9) rfl)) (fun _ h9 => h9) rfl dX9_halves_19 ?_
      refine lv_iload_n hx hb dX9_halves_22 rfl (lv_at hl 1 rfl) ?_
      refine lv_iconst (v := 2) hx hb dX9_halves_23 (by decide) ?_
      refine lv_idiv hx hb dX9_halves_24 (by decide) ?_
      refine lv_topi (fun z_5 ez_5 => ?_)
      obtain rfl : z_5 = nI (nn / 2) := ez_5.trans (pk_div (a := nn) (d := 2) (by omega) (by omega) (by omega))
      refine lv_iload_n hx hb dX9_halves_25 rfl (lv_at hl 2 rfl) ?_
      have hFc := va_free (wc := [(su, .inr (5, [.ref wa])), (wa, .inl (cJ, 181, .inr (.inl f)))]) hD hS hA [1, 2] rfl
      refine va_callv (va_runV (As := [.int (nI (nn / 2)), .int (nI bb)]) (rest := []) ⟨hx, hb, hml, hown, hts⟩ (qkX6_fill l dC dI su wa cJ f (nn / 2) bb (s.heap.size) (by omega) (by omega) (by omega)) (cwV 2 hts qgX9_halves__X6_fill_V321 rfl rfl rfl (by decide +kernel) ⟨lel 2 2 rfl, lel 47 47 rfl⟩) ⟨hw_fb, va_recv hK hP (ci := 5) (q0 := 1) rfl rfl, (hw_use hP hD hK hN [1, 2] rfl (by decide) rfl [0] rfl)⟩ rfl rfl hl.1 rfl (lv_room (Nat.le_of_ble_eq_true rfl)) dX9_halves_26 ⟨lel 0 0 rfl, lel 0 0 rfl⟩) hS (fun q _ h => hFc q h) hFc (fun u_7 t H1 locs ht hvm hwr_6 hB hz1 hk1 hS => ?_)
      obtain ⟨f2_8, hf_9, hP1, hK1, hD1⟩ := hB
      rw [ht] at hP1
      have hK1 := va_K.moved hvm.symm hK1
      obtain ⟨hP, hD⟩ := va_join (wr := [(h0, .inr (7, [.ref tp, .ref sc, .ref rd, .ref cu, .ref im, .ref ig, .ref sl, .ref se, .ref su, .ref fc]))]) (w1 := [(su, .inr (5, [.ref wa])), (wa, .inl (cJ, 181, .inr (.inl f2_8)))]) hP hD [1, 2] [0] rfl rfl (by decide) (by decide) hk1 hFc hP1 hD1
      have hK := (hK.sub (tys' := []) [] rfl).app hK1
      generalize H1 = H at hP hS ⊢
      have hP : va_P (dC, dI) vwCl [(h0, .inr (7, [.ref tp, .ref sc, .ref rd, .ref cu, .ref im, .ref ig, .ref sl, .ref se, .ref su, .ref fc])), (su, .inr (5, [.ref wa])), (wa, .inl (cJ, 181, .inr (.inl f2_8)))] H := hP
      have hD : va_D A [(h0, .inr (7, [.ref tp, .ref sc, .ref rd, .ref cu, .ref im, .ref ig, .ref sl, .ref se, .ref su, .ref fc])), (su, .inr (5, [.ref wa])), (wa, .inl (cJ, 181, .inr (.inl f2_8)))] := hD
      have hK : va_K (dC, dI) vwCl [(cJ, .long)] s := hK
      refine lv_lconst (v := 0) hx hb dX9_halves_29 (by decide) ?_
      refine lv_lstore_n (lv' := [(3, .long 0), (0, .ref h0), (1, .int (nI nn)), (2, .int (nI bb))]) hx hb dX9_halves_30 rfl hl (by decide) rfl (fun ls hl => ?_)
      refine lv_iconst (v := 0) hx hb dX9_halves_31 (by decide) ?_
      refine lv_istore (lv' := [(5, .int 0), (3, .long 0), (0, .ref h0), (1, .int (nI nn)), (2, .int (nI bb))]) hx hb dX9_halves_32 hl (by decide) rfl (fun ls hl => ?_)
      refine loopW (σ := Nat) (fun v => 182 - v) (fun v H locs ls => (v ≤ 181) ∧ va_P (dC, dI) vwCl [(h0, .inr (7, [.ref tp, .ref sc, .ref rd, .ref cu, .ref im, .ref ig, .ref sl, .ref se, .ref su, .ref fc])), (su, .inr (5, [.ref wa])), (wa, .inl (cJ, 181, .inr (.inl f2_8)))] H ∧ va_D A [(h0, .inr (7, [.ref tp, .ref sc, .ref rd, .ref cu, .ref im, .ref ig, .ref sl, .ref se, .ref su, .ref fc])), (su, .inr (5, [.ref wa])), (wa, .inl (cJ, 181, .inr (.inl f2_8)))] ∧ va_S A s.heap H locs ∧ lv_has ls 6 [(5, .int (nI v)), (3, .long (hs (TT 0 (bb - 1) (nn / 2)) v)), (0, .ref h0), (1, .int (nI nn)), (2, .int (nI bb))]) (fun v H locs ls hI ih_34 => ?_) 0 ⟨(show 0 ≤ 181 from Nat.zero_le _), hP, hD, hS, hl⟩
      obtain ⟨i, rfl⟩ : ∃ z, z = v := ⟨_, rfl⟩
      obtain ⟨hi, hP, hD, hS, hl⟩ := hI
      have hi : i ≤ 181 := hi
      have hP : va_P (dC, dI) vwCl [(h0, .inr (7, [.ref tp, .ref sc, .ref rd, .ref cu, .ref im, .ref ig, .ref sl, .ref se, .ref su, .ref fc])), (su, .inr (5, [.ref wa])), (wa, .inl (cJ, 181, .inr (.inl f2_8)))] H := hP
      have hD : va_D A [(h0, .inr (7, [.ref tp, .ref sc, .ref rd, .ref cu, .ref im, .ref ig, .ref sl, .ref se, .ref su, .ref fc])), (su, .inr (5, [.ref wa])), (wa, .inl (cJ, 181, .inr (.inl f2_8)))] := hD
      have hl : lv_has ls 6 [(5, .int (nI i)), (3, .long (hs (TT 0 (bb - 1) (nn / 2)) i)), (0, .ref h0), (1, .int (nI nn)), (2, .int (nI bb))] := hl
      refine lv_iload hx hb dX9_halves_34 (lv_at hl 0 rfl) ?_
      refine lv_sipush (v := 180) hx hb dX9_halves_36 (by decide) ?_
      refine lv_icmp_gt (tgt := 70) hx hb dX9_halves_39 (by decide) (fun c_10 => ?_) (fun c_10 => ?_)
      ·
        have nc_10 : 180 < i := (nI_ltI (a := 180) (b := i) (by omega) (by omega)).mp c_10
        refine lv_lload_n hx hb dX9_halves_70 rfl (lv_at hl 1 rfl) ?_
        have hP9 := hP.sub (ws' := [(h0, .inr (7, [.ref tp, .ref sc, .ref rd, .ref cu, .ref im, .ref ig, .ref sl, .ref se, .ref su, .ref fc])), (su, .inr (5, [.ref wa])), (wa, .inl (cJ, 181, .inr (.inl f2_8)))]) [0, 1, 2] rfl
        have hD9 := hD.sub (ws' := [(h0, .inr (7, [.ref tp, .ref sc, .ref rd, .ref cu, .ref im, .ref ig, .ref sl, .ref se, .ref su, .ref fc])), (su, .inr (5, [.ref wa])), (wa, .inl (cJ, 181, .inr (.inl f2_8)))]) [0, 1, 2] (by decide) rfl
        have hK9 := hK.sub (tys' := [(cJ, .long)]) [0] rfl
        exact W.lret (v := (hs (TT 0 (bb - 1) (nn / 2)) i)) hx hb hr (fun t ht hW => ⟨⟨(hs (TT 0 (bb - 1) (nn / 2)) i), (), rfl, hv_c hil hn2 hb3 (by omega) (show hs (TT 0 (bb - 1) (nn / 2)) i = _ by rw [show i = 181 by omega]), f2_8, by rw [ht]; exact hP9, va_K.moved hW.alike hK9, hD9⟩, hS.F ht⟩) hS.2.2 dX9_halves_71
      ·
        have nc_10 : ¬ 180 < i := fun q9 => c_10 ((nI_ltI (a := 180) (b := i) (by omega) (by omega)).mpr q9)
        refine lv_lload_n hx hb dX9_halves_42 rfl (lv_at hl 1 rfl) ?_
        refine lv_aload_n hx hb dX9_halves_43 rfl (lv_at hl 2 rfl) ?_
        refine va_get (D := (dC, dI)) (ci := 7) (v := .ref su) (C := RX9) (T := TX9) (N := 10) hx hb hts qiX9_halves_X9 hown hK hP 0 rfl rfl 8 (by decide) (hts (.fieldLink RX9 64 "LuckyTicket" "sumTable" "LLuckyTicket$SumTable;") (List.mem_of_getElem? (i := 9) rfl)) (fun _ h9 => h9) rfl dX9_halves_44 ?_
        refine lv_iload hx hb dX9_halves_47 (lv_at hl 0 rfl) ?_
        refine vp_callSl (W.runV (As := [.int (nI i)]) (rest := [.long (hs (TT 0 (bb - 1) (nn / 2)) i)]) ⟨hx, hb, hml, hown, hts⟩ (qkX6_waysTo l dC dI su wa cJ f2_8 (nI i)) (cwV 1 hts qgX9_halves__X6_waysTo_V324 rfl rfl rfl (by decide +kernel) ⟨lel 1 2 rfl, lel 21 47 rfl⟩) ⟨pw_fb, va_recv hK hP (ci := 5) (q0 := 1) rfl rfl, (pw_use hP hK hN [1, 2] rfl [0] rfl)⟩ rfl rfl hl.1 rfl (lv_room (Nat.le_of_ble_eq_true rfl)) dX9_halves_49 ⟨lel 0 0 rfl, lel 0 0 rfl⟩) (fun r_11 hr_11 => ?_)
        refine lv_aload_n hx hb dX9_halves_52 rfl (lv_at hl 2 rfl) ?_
        refine va_get (D := (dC, dI)) (ci := 7) (v := .ref su) (C := RX9) (T := TX9) (N := 10) hx hb hts qiX9_halves_X9 hown hK hP 0 rfl rfl 8 (by decide) (hts (.fieldLink RX9 64 "LuckyTicket" "sumTable" "LLuckyTicket$SumTable;") (List.mem_of_getElem? (i := 9) rfl)) (fun _ h9 => h9) rfl dX9_halves_53 ?_
        refine lv_iload hx hb dX9_halves_56 (lv_at hl 0 rfl) ?_
        refine vp_callSl (W.runV (As := [.int (nI i)]) (rest := [.long r_11, .long (hs (TT 0 (bb - 1) (nn / 2)) i)]) ⟨hx, hb, hml, hown, hts⟩ (qkX6_waysTo l dC dI su wa cJ f2_8 (nI i)) (cwV 1 hts qgX9_halves__X6_waysTo_V324 rfl rfl rfl (by decide +kernel) ⟨lel 1 2 rfl, lel 21 47 rfl⟩) ⟨pw_fb, va_recv hK hP (ci := 5) (q0 := 1) rfl rfl, (pw_use hP hK hN [1, 2] rfl [0] rfl)⟩ rfl rfl hl.1 rfl (lv_room (Nat.le_of_ble_eq_true rfl)) dX9_halves_58 ⟨lel 0 0 rfl, lel 0 0 rfl⟩) (fun r_12 hr_12 => ?_)
        refine lv_lmul hx hb dX9_halves_61 ?_
        refine lv_topl (fun z_13 ez_13 => ?_)
        refine lv_ladd hx hb dX9_halves_62 ?_
        refine lv_topl (fun z_14 ez_14 => ?_)
        refine lv_lstore_n (lv' := [(3, .long z_14), (5, .int (nI i)), (0, .ref h0), (1, .int (nI nn)), (2, .int (nI bb))]) hx hb dX9_halves_63 rfl hl (by decide) rfl (fun ls hl => ?_)
        obtain ⟨z_15, ez_15⟩ : ∃ y : Int32, y = nI i + 1 := ⟨_, rfl⟩
        refine lv_iinc (v := z_15) (lv' := [(5, .int z_15), (3, .long z_14), (0, .ref h0), (1, .int (nI nn)), (2, .int (nI bb))]) hx hb dX9_halves_64 hl (k := 1) rfl (by rw [ez_15]; rfl) (by decide) rfl (fun ls hl => ?_)
        obtain rfl : z_15 = nI (i + 1) := ez_15.trans (nI_add i 1)
        refine lv_goto (tgt := 34) hx hb dX9_halves_67 (by decide) ?_
        have hl : lv_has ls 6 [(5, .int (nI (i + 1))), (3, .long (hs (TT 0 (bb - 1) (nn / 2)) (i + 1))), (0, .ref h0), (1, .int (nI nn)), (2, .int (nI bb))] := by rw [show hs (TT 0 (bb - 1) (nn / 2)) (i + 1) = z_14 from by rw [ez_14, ez_13, hr_12, hr_11, wt_nat (by omega) hf_9]; rfl]; exact hl
        exact ih_34 (i + 1) _ _ _ ⟨(show (i + 1) ≤ 181 from (by omega)), hP, hD, hS, lv_sub hl [0, 1, 2, 3, 4] rfl⟩ (show 182 - (i + 1) < 182 - i by omega)
    ·
      have nc_4 : ¬ (nn % 2 = 0) := fun q9 => c_4 ((nI_eq (a := nn % 2) (b := 0) (by omega) (by omega)).mpr q9)
      refine lv_ldc2 (v := (-2)) hx hb hown (hts (.constantLong RX9 265 (-2)) (List.mem_of_getElem? (i := 8) rfl)) dX9_halves_14 ?_
      have hP9 := hP.sub (ws' := [(h0, .inr (7, [.ref tp, .ref sc, .ref rd, .ref cu, .ref im, .ref ig, .ref sl, .ref se, .ref su, .ref fc])), (su, .inr (5, [.ref wa])), (wa, .inl (cJ, 181, .inr (.inl f)))]) [0, 1, 2] rfl
      have hD9 := hD.sub (ws' := [(h0, .inr (7, [.ref tp, .ref sc, .ref rd, .ref cu, .ref im, .ref ig, .ref sl, .ref se, .ref su, .ref fc])), (su, .inr (5, [.ref wa])), (wa, .inl (cJ, 181, .inr (.inl f)))]) [0, 1, 2] (by decide) rfl
      have hK9 := hK.sub (tys' := [(cJ, .long)]) [0] rfl
      exact W.lret (v := (-2)) hx hb hr (fun t ht hW => ⟨⟨(-2), (), rfl, hv_b hn2 (fun q => c_4 (by rw [q]; rfl)), f, by rw [ht]; exact hP9, va_K.moved hW.alike hK9, hD9⟩, hS.F ht⟩) hS.2.2 dX9_halves_17
def quX9_most : List Cond := List.cons (.code yX9_most cX9_most 5 (some .int)) (HAppend.hAppend (HAppend.hAppend ([.methodLink RX9 318 yX9_isLong, .static yX9_isLong, .initialized RX9, .code yX9_isLong cX9_isLong 2 (some .boolean), .methodLink RX9 158 yX9_isWithin, .static yX9_isWithin, .code yX9_isWithin cX9_isWithin 3 (some .boolean), .fieldLink RX9 64 "LuckyTicket" "sumTable" "LLuckyTicket$SumTable;", .methodLink RX9 321 yX6_fill, .instanceMethod yX6_fill, .selects RX6 yX6_fill yX6_fill, .initialized RX6, .code yX6_fill cX6_fill 4 none, .fieldLink RX6 9 "LuckyTicket$SumTable" "ways" "[J", .methodLink RX6 13 yJ7_fill_d0a16, .static yJ7_fill_d0a16, .initialized RJ7, .code yJ7_fill_d0a16 cJ7_fill_d0a16 5 none, .methodLink RX6 19 yX6_addPlace, .instanceMethod yX6_addPlace, .selects RX6 yX6_addPlace yX6_addPlace, .code yX6_addPlace cX6_addPlace 3 none, .methodLink RX9 324 yX6_waysTo, .instanceMethod yX6_waysTo, .selects RX6 yX6_waysTo yX6_waysTo, .code yX6_waysTo cX6_waysTo 2 (some .long)] : List Cond) wsX90) wsX60)
theorem qiX9_most_X9 : ∀ w ∈ wsX90, w ∈ quX9_most := fun _ h => List.mem_cons_of_mem _ (List.mem_append_left _ (List.mem_append_right _ h))
theorem qiX9_most_X6 : ∀ w ∈ wsX60, w ∈ quX9_most := fun _ h => List.mem_cons_of_mem _ (List.mem_append_right _ h)
set_option maxRecDepth 20000 in
theorem qgX9_most__X9_isLong_S318 : GoodIn quX9_most (va_wsS RX9 318 yX9_isLong quX9_isLong) := goodIn_p _ [4, 7] rfl (by decide +kernel)
set_option maxRecDepth 20000 in
theorem qgX9_most__X6_fill_V321 : GoodIn quX9_most (wsV RX9 321 RX6 yX6_fill quX6_fill) := goodIn_p _ [13, 18, 22] rfl (by decide +kernel)
set_option maxRecDepth 20000 in
theorem qgX9_most__X6_waysTo_V324 : GoodIn quX9_most (wsV RX9 324 RX6 yX6_waysTo quX6_waysTo) := goodIn_p _ [26] rfl (by decide +kernel)
set_option maxHeartbeats 4000000 in
set_option maxRecDepth 100000 in
theorem qkX9_most (l : Launch) (dC : Nat → ClassId) (dI : Nat → Nat → Nat) (h0 : Nat) (tp : Nat) (sc : Nat) (rd : Nat) (cu : Nat) (im : Nat) (ig : Nat) (sl : Nat) (se : Nat) (su : Nat) (fc : Nat) (wa : Nat) (cJ : ClassId) (f : Nat → Int64) (a1 : Int32) (a2 : Int32) (sz : Nat) : Met l yX9_most quX9_most ({ frames := 2, cells := 0, slots := 0, locals := 47 }) (va_Pc [.ref h0, .int a1, .int a2] (hw (dC, dI) vwCl [(h0, .inr (7, [.ref tp, .ref sc, .ref rd, .ref cu, .ref im, .ref ig, .ref sl, .ref se, .ref su, .ref fc])), (su, .inr (5, [.ref wa])), (wa, .inl (cJ, 181, .inr (.inl f)))] [(cJ, .long)] sz)) (va_Qi (fun (r : Int32) (_ : Unit) => r = msv a1 a2) (fun (_ : Unit) t => ∃ (f2 : Nat → Int64), va_P (dC, dI) vwCl [(h0, .inr (7, [.ref tp, .ref sc, .ref rd, .ref cu, .ref im, .ref ig, .ref sl, .ref se, .ref su, .ref fc])), (su, .inr (5, [.ref wa])), (wa, .inl (cJ, 181, .inr (.inl f2)))] t.heap ∧ va_K (dC, dI) vwCl [(cJ, .long)] t ∧ va_D (va_A [(h0, .inr (7, [.ref tp, .ref sc, .ref rd, .ref cu, .ref im, .ref ig, .ref sl, .ref se, .ref su, .ref fc])), (su, .inr (5, [.ref wa])), (wa, .inl (cJ, 181, .inr (.inl f)))] sz) [(h0, .inr (7, [.ref tp, .ref sc, .ref rd, .ref cu, .ref im, .ref ig, .ref sl, .ref se, .ref su, .ref fc])), (su, .inr (5, [.ref wa])), (wa, .inl (cJ, 181, .inr (.inl f2)))]) (va_A [(h0, .inr (7, [.ref tp, .ref sc, .ref rd, .ref cu, .ref im, .ref ig, .ref sl, .ref se, .ref su, .ref fc])), (su, .inr (5, [.ref wa])), (wa, .inl (cJ, 181, .inr (.inl f)))] sz)) 0 0 (va_A [(h0, .inr (7, [.ref tp, .ref sc, .ref rd, .ref cu, .ref im, .ref ig, .ref sl, .ref se, .ref su, .ref fc])), (su, .inr (5, [.ref wa])), (wa, .inl (cJ, 181, .inr (.inl f)))] sz) := by
  refine Met.ofW (cc := cX9_most) (maxL := 5) (ret := (some .int)) (by decide) rfl ?_
  intro p e s m args below meth c s₁ B hml hv
  obtain ⟨rfl, hsz, hP, hK, hD0, hN⟩ := hv
  have hx := B.exec
  have hb := B.bytes
  have hr := B.returns
  have hts := atoms_spec (ws := quX9_most) B.pre
  have hown : s.vm.findClass RX9 = some m.cls := findClass_of_methodNamed B.named
  have hlocks := B.notSynchronized
  subst hsz
  have hD := hD0.self (sz := s.heap.size)
  generalize hAe : va_A [(h0, .inr (7, [.ref tp, .ref sc, .ref rd, .ref cu, .ref im, .ref ig, .ref sl, .ref se, .ref su, .ref fc])), (su, .inr (5, [.ref wa])), (wa, .inl (cJ, 181, .inr (.inl f)))] s.heap.size = A at hD ⊢
  have hA : ∀ q : Nat, s.heap.size ≤ q → A q := fun q h => by rw [← hAe]; exact Or.inr h
  have hS : va_S A s.heap s.heap [] := va_S.rf
  have hP : va_P (dC, dI) vwCl [(h0, .inr (7, [.ref tp, .ref sc, .ref rd, .ref cu, .ref im, .ref ig, .ref sl, .ref se, .ref su, .ref fc])), (su, .inr (5, [.ref wa])), (wa, .inl (cJ, 181, .inr (.inl f)))] s.heap := hP
  have hl := lv_entry ([.ref h0, .int a1, .int a2]) (n := 5) (Nat.le_of_ble_eq_true rfl)
  rw [lg_entry_eq]
  generalize (lg_sl ([.ref h0, .int a1, .int a2]) ++ List.replicate (5 - (lg_sl ([.ref h0, .int a1, .int a2])).length) Slot.unset).toArray = ls at hl ⊢
  have hl : lv_has ls 5 [(0, .ref h0), (1, .int a1), (2, .int a2)] := hl
  refine lv_iload_n hx hb dX9_most_0 rfl (lv_at hl 1 rfl) ?_
  refine lv_iload_n hx hb dX9_most_1 rfl (lv_at hl 2 rfl) ?_
  refine vp_callSi (W.runS (As := [.int a1, .int a2]) (rest := []) ⟨hx, hb, hml, hown, hts⟩ (qkX9_isLong l dC dI a1 a2) (va_cwS 2 hts qgX9_most__X9_isLong_S318 rfl rfl rfl (by decide +kernel) ⟨lel 2 2 rfl, lel 43 47 rfl⟩) ⟨pn_fb, pn_use⟩ rfl rfl hl.1 rfl (lv_room (Nat.le_of_ble_eq_true rfl)) dX9_most_2 ⟨lel 0 0 rfl, lel 0 0 rfl⟩) (fun r_1 hr_1 => ?_)
  refine lv_if_ne (tgt := 11) hx hb dX9_most_5 (by decide) (fun c_2 => ?_) (fun c_2 => ?_)
  ·
    have hil : ¬ il a1 a2 = 0 := fun e => c_2 (hr_1.trans e)
    obtain ⟨nn, bb, hn1, hn2, hb2, hb3, rfl, rfl⟩ := il_yes hil
    refine lv_aload_n hx hb dX9_most_11 rfl (lv_at hl 0 rfl) ?_
    refine va_get (D := (dC, dI)) (ci := 7) (v := .ref su) (C := RX9) (T := TX9) (N := 10) hx hb hts qiX9_most_X9 hown hK hP 0 rfl rfl 8 (by decide) (hts (.fieldLink RX9 64 "LuckyTicket" "sumTable" "LLuckyTicket$SumTable;") (List.mem_of_getElem? (i := 8) rfl)) (fun _ h9 => h9) rfl dX9_most_12 ?_
    refine lv_iload_n hx hb dX9_most_15 rfl (lv_at hl 1 rfl) ?_
    refine lv_iload_n hx hb dX9_most_16 rfl (lv_at hl 2 rfl) ?_
    have hFc := va_free (wc := [(su, .inr (5, [.ref wa])), (wa, .inl (cJ, 181, .inr (.inl f)))]) hD hS hA [1, 2] rfl
    refine va_callv (va_runV (As := [.int (nI nn), .int (nI bb)]) (rest := []) ⟨hx, hb, hml, hown, hts⟩ (qkX6_fill l dC dI su wa cJ f nn bb (s.heap.size) (by omega) (by omega) (by omega)) (cwV 2 hts qgX9_most__X6_fill_V321 rfl rfl rfl (by decide +kernel) ⟨lel 2 2 rfl, lel 47 47 rfl⟩) ⟨hw_fb, va_recv hK hP (ci := 5) (q0 := 1) rfl rfl, (hw_use hP hD hK hN [1, 2] rfl (by decide) rfl [0] rfl)⟩ rfl rfl hl.1 rfl (lv_room (Nat.le_of_ble_eq_true rfl)) dX9_most_17 ⟨lel 0 0 rfl, lel 0 0 rfl⟩) hS (fun q _ h => hFc q h) hFc (fun u_4 t H1 locs ht hvm hwr_3 hB hz1 hk1 hS => ?_)
    obtain ⟨f2_5, hf_6, hP1, hK1, hD1⟩ := hB
    rw [ht] at hP1
    have hK1 := va_K.moved hvm.symm hK1
    obtain ⟨hP, hD⟩ := va_join (wr := [(h0, .inr (7, [.ref tp, .ref sc, .ref rd, .ref cu, .ref im, .ref ig, .ref sl, .ref se, .ref su, .ref fc]))]) (w1 := [(su, .inr (5, [.ref wa])), (wa, .inl (cJ, 181, .inr (.inl f2_5)))]) hP hD [1, 2] [0] rfl rfl (by decide) (by decide) hk1 hFc hP1 hD1
    have hK := (hK.sub (tys' := []) [] rfl).app hK1
    generalize H1 = H at hP hS ⊢
    have hP : va_P (dC, dI) vwCl [(h0, .inr (7, [.ref tp, .ref sc, .ref rd, .ref cu, .ref im, .ref ig, .ref sl, .ref se, .ref su, .ref fc])), (su, .inr (5, [.ref wa])), (wa, .inl (cJ, 181, .inr (.inl f2_5)))] H := hP
    have hD : va_D A [(h0, .inr (7, [.ref tp, .ref sc, .ref rd, .ref cu, .ref im, .ref ig, .ref sl, .ref se, .ref su, .ref fc])), (su, .inr (5, [.ref wa])), (wa, .inl (cJ, 181, .inr (.inl f2_5)))] := hD
    have hK : va_K (dC, dI) vwCl [(cJ, .long)] s := hK
    refine lv_iconst (v := 0) hx hb dX9_most_20 (by decide) ?_
    refine lv_istore_n (lv' := [(3, .int 0), (0, .ref h0), (1, .int (nI nn)), (2, .int (nI bb))]) hx hb dX9_most_21 rfl hl (by decide) rfl (fun ls hl => ?_)
    refine lv_iconst (v := 1) hx hb dX9_most_22 (by decide) ?_
    refine lv_istore (lv' := [(4, .int 1), (3, .int 0), (0, .ref h0), (1, .int (nI nn)), (2, .int (nI bb))]) hx hb dX9_most_23 hl (by decide) rfl (fun ls hl => ?_)
    refine loopW (σ := Nat) (fun v => 182 - v) (fun v H locs ls => (v ≤ 180) ∧ va_P (dC, dI) vwCl [(h0, .inr (7, [.ref tp, .ref sc, .ref rd, .ref cu, .ref im, .ref ig, .ref sl, .ref se, .ref su, .ref fc])), (su, .inr (5, [.ref wa])), (wa, .inl (cJ, 181, .inr (.inl f2_5)))] H ∧ va_D A [(h0, .inr (7, [.ref tp, .ref sc, .ref rd, .ref cu, .ref im, .ref ig, .ref sl, .ref se, .ref su, .ref fc])), (su, .inr (5, [.ref wa])), (wa, .inl (cJ, 181, .inr (.inl f2_5)))] ∧ va_S A s.heap H locs ∧ lv_has ls 5 [(4, .int (nI (v + 1))), (3, .int (nI (mbs (TT 0 (bb - 1) nn) v))), (0, .ref h0), (1, .int (nI nn)), (2, .int (nI bb))]) (fun v H locs ls hI ih_25 => ?_) 0 ⟨(show 0 ≤ 180 from Nat.zero_le _), hP, hD, hS, hl⟩
    obtain ⟨i, rfl⟩ : ∃ z, z = v := ⟨_, rfl⟩
    obtain ⟨hi, hP, hD, hS, hl⟩ := hI
    have hi : i ≤ 180 := hi
    have hP : va_P (dC, dI) vwCl [(h0, .inr (7, [.ref tp, .ref sc, .ref rd, .ref cu, .ref im, .ref ig, .ref sl, .ref se, .ref su, .ref fc])), (su, .inr (5, [.ref wa])), (wa, .inl (cJ, 181, .inr (.inl f2_5)))] H := hP
    have hD : va_D A [(h0, .inr (7, [.ref tp, .ref sc, .ref rd, .ref cu, .ref im, .ref ig, .ref sl, .ref se, .ref su, .ref fc])), (su, .inr (5, [.ref wa])), (wa, .inl (cJ, 181, .inr (.inl f2_5)))] := hD
    have hl : lv_has ls 5 [(4, .int (nI (i + 1))), (3, .int (nI (mbs (TT 0 (bb - 1) nn) i))), (0, .ref h0), (1, .int (nI nn)), (2, .int (nI bb))] := hl
    have hmb := mbs_le (TT 0 (bb - 1) nn) i
    refine lv_iload hx hb dX9_most_25 (lv_at hl 0 rfl) ?_
    refine lv_sipush (v := 180) hx hb dX9_most_27 (by decide) ?_
    refine lv_icmp_gt (tgt := 63) hx hb dX9_most_30 (by decide) (fun c_7 => ?_) (fun c_7 => ?_)
    ·
      have nc_7 : 180 < i + 1 := (nI_ltI (a := 180) (b := i + 1) (by omega) (by omega)).mp c_7
      refine lv_iload_n hx hb dX9_most_63 rfl (lv_at hl 1 rfl) ?_
      have hP9 := hP.sub (ws' := [(h0, .inr (7, [.ref tp, .ref sc, .ref rd, .ref cu, .ref im, .ref ig, .ref sl, .ref se, .ref su, .ref fc])), (su, .inr (5, [.ref wa])), (wa, .inl (cJ, 181, .inr (.inl f2_5)))]) [0, 1, 2] rfl
      have hD9 := hD.sub (ws' := [(h0, .inr (7, [.ref tp, .ref sc, .ref rd, .ref cu, .ref im, .ref ig, .ref sl, .ref se, .ref su, .ref fc])), (su, .inr (5, [.ref wa])), (wa, .inl (cJ, 181, .inr (.inl f2_5)))]) [0, 1, 2] (by decide) rfl
      have hK9 := hK.sub (tys' := [(cJ, .long)]) [0] rfl
      exact W.iret (v := (nI (mbs (TT 0 (bb - 1) nn) i))) hx hb hr (fun t ht hW => ⟨⟨(nI (mbs (TT 0 (bb - 1) nn) i)), (), rfl, ms_c hil hn2 hb3 (by rw [show i = 180 by omega]), f2_5, by rw [ht]; exact hP9, va_K.moved hW.alike hK9, hD9⟩, hS.F ht⟩) hS.2.2 dX9_most_64
    ·
      have nc_7 : ¬ 180 < i + 1 := fun q9 => c_7 ((nI_ltI (a := 180) (b := i + 1) (by omega) (by omega)).mpr q9)
      refine lv_aload_n hx hb dX9_most_33 rfl (lv_at hl 2 rfl) ?_
      refine va_get (D := (dC, dI)) (ci := 7) (v := .ref su) (C := RX9) (T := TX9) (N := 10) hx hb hts qiX9_most_X9 hown hK hP 0 rfl rfl 8 (by decide) (hts (.fieldLink RX9 64 "LuckyTicket" "sumTable" "LLuckyTicket$SumTable;") (List.mem_of_getElem? (i := 8) rfl)) (fun _ h9 => h9) rfl dX9_most_34 ?_
      refine lv_iload hx hb dX9_most_37 (lv_at hl 0 rfl) ?_
      refine vp_callSl (W.runV (As := [.int (nI (i + 1))]) (rest := []) ⟨hx, hb, hml, hown, hts⟩ (qkX6_waysTo l dC dI su wa cJ f2_5 (nI (i + 1))) (cwV 1 hts qgX9_most__X6_waysTo_V324 rfl rfl rfl (by decide +kernel) ⟨lel 1 2 rfl, lel 21 47 rfl⟩) ⟨pw_fb, va_recv hK hP (ci := 5) (q0 := 1) rfl rfl, (pw_use hP hK hN [1, 2] rfl [0] rfl)⟩ rfl rfl hl.1 rfl (lv_room (Nat.le_of_ble_eq_true rfl)) dX9_most_39 ⟨lel 0 0 rfl, lel 0 0 rfl⟩) (fun r_8 hr_8 => ?_)
      refine lv_aload_n hx hb dX9_most_42 rfl (lv_at hl 2 rfl) ?_
      refine va_get (D := (dC, dI)) (ci := 7) (v := .ref su) (C := RX9) (T := TX9) (N := 10) hx hb hts qiX9_most_X9 hown hK hP 0 rfl rfl 8 (by decide) (hts (.fieldLink RX9 64 "LuckyTicket" "sumTable" "LLuckyTicket$SumTable;") (List.mem_of_getElem? (i := 8) rfl)) (fun _ h9 => h9) rfl dX9_most_43 ?_
      refine lv_iload_n hx hb dX9_most_46 rfl (lv_at hl 1 rfl) ?_
      refine vp_callSl (W.runV (As := [.int (nI (mbs (TT 0 (bb - 1) nn) i))]) (rest := [.long r_8]) ⟨hx, hb, hml, hown, hts⟩ (qkX6_waysTo l dC dI su wa cJ f2_5 (nI (mbs (TT 0 (bb - 1) nn) i))) (cwV 1 hts qgX9_most__X6_waysTo_V324 rfl rfl rfl (by decide +kernel) ⟨lel 1 2 rfl, lel 21 47 rfl⟩) ⟨pw_fb, va_recv hK hP (ci := 5) (q0 := 1) rfl rfl, (pw_use hP hK hN [1, 2] rfl [0] rfl)⟩ rfl rfl hl.1 rfl (lv_room (Nat.le_of_ble_eq_true rfl)) dX9_most_47 ⟨lel 0 0 rfl, lel 0 0 rfl⟩) (fun r_9 hr_9 => ?_)
      refine W.lcmp hx hb dX9_most_50 ?_
      refine lv_if_le (tgt := 57) hx hb dX9_most_51 (by decide) (fun c_10 => ?_) (fun c_10 => ?_)
      ·
        obtain ⟨z_11, ez_11⟩ : ∃ y : Int32, y = nI (i + 1) + 1 := ⟨_, rfl⟩
        refine lv_iinc (v := z_11) (lv' := [(4, .int z_11), (3, .int (nI (mbs (TT 0 (bb - 1) nn) i))), (0, .ref h0), (1, .int (nI nn)), (2, .int (nI bb))]) hx hb dX9_most_57 hl (k := 0) rfl (by rw [ez_11]; rfl) (by decide) rfl (fun ls hl => ?_)
        obtain rfl : z_11 = nI ((i + 1) + 1) := ez_11.trans (nI_add (i + 1) 1)
        refine lv_goto (tgt := 25) hx hb dX9_most_60 (by decide) ?_
        have hl : lv_has ls 5 [(4, .int (nI ((i + 1) + 1))), (3, .int (nI (mbs (TT 0 (bb - 1) nn) (i + 1)))), (0, .ref h0), (1, .int (nI nn)), (2, .int (nI bb))] := by rw [mbs_0 (by rw [← wt_nat (by omega) hf_6, ← wt_nat (q := i + 1) (by omega) hf_6, ← hr_9, ← hr_8]; exact fb_not2 ((lg_cmp_le _ _).mp c_10))]; exact hl
        exact ih_25 (i + 1) _ _ _ ⟨(show (i + 1) ≤ 180 from (by omega)), hP, hD, hS, lv_sub hl [0, 1, 2, 3, 4] rfl⟩ (show 182 - (i + 1) < 182 - i by omega)
      ·
        refine lv_iload hx hb dX9_most_54 (lv_at hl 0 rfl) ?_
        refine lv_istore_n (lv' := [(3, .int (nI (i + 1))), (4, .int (nI (i + 1))), (0, .ref h0), (1, .int (nI nn)), (2, .int (nI bb))]) hx hb dX9_most_56 rfl hl (by decide) rfl (fun ls hl => ?_)
        obtain ⟨z_12, ez_12⟩ : ∃ y : Int32, y = nI (i + 1) + 1 := ⟨_, rfl⟩
        refine lv_iinc (v := z_12) (lv' := [(4, .int z_12), (3, .int (nI (i + 1))), (0, .ref h0), (1, .int (nI nn)), (2, .int (nI bb))]) hx hb dX9_most_57 hl (k := 1) rfl (by rw [ez_12]; rfl) (by decide) rfl (fun ls hl => ?_)
        obtain rfl : z_12 = nI ((i + 1) + 1) := ez_12.trans (nI_add (i + 1) 1)
        refine lv_goto (tgt := 25) hx hb dX9_most_60 (by decide) ?_
        have hl : lv_has ls 5 [(4, .int (nI ((i + 1) + 1))), (3, .int (nI (mbs (TT 0 (bb - 1) nn) (i + 1)))), (0, .ref h0), (1, .int (nI nn)), (2, .int (nI bb))] := by rw [mbs_1 (by rw [← wt_nat (by omega) hf_6, ← wt_nat (q := i + 1) (by omega) hf_6, ← hr_9, ← hr_8]; exact fb_gt (fun q => c_10 ((lg_cmp_le _ _).mpr q)))]; exact hl
        exact ih_25 (i + 1) _ _ _ ⟨(show (i + 1) ≤ 180 from (by omega)), hP, hD, hS, lv_sub hl [0, 1, 2, 3, 4] rfl⟩ (show 182 - (i + 1) < 182 - i by omega)
  ·
    refine lv_bipush (v := (-2)) hx hb dX9_most_8 (by decide) ?_
    have hP9 := hP.sub (ws' := [(h0, .inr (7, [.ref tp, .ref sc, .ref rd, .ref cu, .ref im, .ref ig, .ref sl, .ref se, .ref su, .ref fc])), (su, .inr (5, [.ref wa])), (wa, .inl (cJ, 181, .inr (.inl f)))]) [0, 1, 2] rfl
    have hD9 := hD.sub (ws' := [(h0, .inr (7, [.ref tp, .ref sc, .ref rd, .ref cu, .ref im, .ref ig, .ref sl, .ref se, .ref su, .ref fc])), (su, .inr (5, [.ref wa])), (wa, .inl (cJ, 181, .inr (.inl f)))]) [0, 1, 2] (by decide) rfl
    have hK9 := hK.sub (tys' := [(cJ, .long)]) [0] rfl
    exact W.iret (v := (-2)) hx hb hr (fun t ht hW => ⟨⟨(-2), (), rfl, ms_a (hr_1.symm.trans c_2), f, by rw [ht]; exact hP9, va_K.moved hW.alike hK9, hD9⟩, hS.F ht⟩) hS.2.2 dX9_most_10
def quX9_dice : List Cond := List.cons (.code yX9_dice cX9_dice 4 (some .long)) (HAppend.hAppend (HAppend.hAppend ([.methodLink RX9 318 yX9_isLong, .static yX9_isLong, .initialized RX9, .code yX9_isLong cX9_isLong 2 (some .boolean), .methodLink RX9 158 yX9_isWithin, .static yX9_isWithin, .code yX9_isWithin cX9_isWithin 3 (some .boolean), .constantLong RX9 265 (-2), .fieldLink RX9 64 "LuckyTicket" "sumTable" "LLuckyTicket$SumTable;", .methodLink RX9 321 yX6_fill, .instanceMethod yX6_fill, .selects RX6 yX6_fill yX6_fill, .initialized RX6, .code yX6_fill cX6_fill 4 none, .fieldLink RX6 9 "LuckyTicket$SumTable" "ways" "[J", .methodLink RX6 13 yJ7_fill_d0a16, .static yJ7_fill_d0a16, .initialized RJ7, .code yJ7_fill_d0a16 cJ7_fill_d0a16 5 none, .methodLink RX6 19 yX6_addPlace, .instanceMethod yX6_addPlace, .selects RX6 yX6_addPlace yX6_addPlace, .code yX6_addPlace cX6_addPlace 3 none, .methodLink RX9 324 yX6_waysTo, .instanceMethod yX6_waysTo, .selects RX6 yX6_waysTo yX6_waysTo, .code yX6_waysTo cX6_waysTo 2 (some .long)] : List Cond) wsX90) wsX60)
theorem qiX9_dice_X9 : ∀ w ∈ wsX90, w ∈ quX9_dice := fun _ h => List.mem_cons_of_mem _ (List.mem_append_left _ (List.mem_append_right _ h))
theorem qiX9_dice_X6 : ∀ w ∈ wsX60, w ∈ quX9_dice := fun _ h => List.mem_cons_of_mem _ (List.mem_append_right _ h)
set_option maxRecDepth 20000 in
theorem qgX9_dice__X9_isLong_S318 : GoodIn quX9_dice (va_wsS RX9 318 yX9_isLong quX9_isLong) := goodIn_p _ [4, 7] rfl (by decide +kernel)
set_option maxRecDepth 20000 in
theorem qgX9_dice__X9_isWithin_S158 : GoodIn quX9_dice (va_wsS RX9 158 yX9_isWithin quX9_isWithin) := goodIn_p _ [7] rfl (by decide +kernel)
set_option maxRecDepth 20000 in
theorem qgX9_dice__X6_fill_V321 : GoodIn quX9_dice (wsV RX9 321 RX6 yX6_fill quX6_fill) := goodIn_p _ [14, 19, 23] rfl (by decide +kernel)
set_option maxRecDepth 20000 in
theorem qgX9_dice__X6_waysTo_V324 : GoodIn quX9_dice (wsV RX9 324 RX6 yX6_waysTo quX6_waysTo) := goodIn_p _ [27] rfl (by decide +kernel)
set_option maxHeartbeats 4000000 in
set_option maxRecDepth 100000 in
theorem qkX9_dice (l : Launch) (dC : Nat → ClassId) (dI : Nat → Nat → Nat) (h0 : Nat) (tp : Nat) (sc : Nat) (rd : Nat) (cu : Nat) (im : Nat) (ig : Nat) (sl : Nat) (se : Nat) (su : Nat) (fc : Nat) (wa : Nat) (cJ : ClassId) (f : Nat → Int64) (a1 : Int32) (a2 : Int32) (a3 : Int32) (sz : Nat) : Met l yX9_dice quX9_dice ({ frames := 2, cells := 0, slots := 0, locals := 47 }) (va_Pc [.ref h0, .int a1, .int a2, .int a3] (hw (dC, dI) vwCl [(h0, .inr (7, [.ref tp, .ref sc, .ref rd, .ref cu, .ref im, .ref ig, .ref sl, .ref se, .ref su, .ref fc])), (su, .inr (5, [.ref wa])), (wa, .inl (cJ, 181, .inr (.inl f)))] [(cJ, .long)] sz)) (va_Ql (fun (r : Int64) (_ : Unit) => r = dcv a1 a2 a3) (fun (_ : Unit) t => ∃ (f2 : Nat → Int64), va_P (dC, dI) vwCl [(h0, .inr (7, [.ref tp, .ref sc, .ref rd, .ref cu, .ref im, .ref ig, .ref sl, .ref se, .ref su, .ref fc])), (su, .inr (5, [.ref wa])), (wa, .inl (cJ, 181, .inr (.inl f2)))] t.heap ∧ va_K (dC, dI) vwCl [(cJ, .long)] t ∧ va_D (va_A [(h0, .inr (7, [.ref tp, .ref sc, .ref rd, .ref cu, .ref im, .ref ig, .ref sl, .ref se, .ref su, .ref fc])), (su, .inr (5, [.ref wa])), (wa, .inl (cJ, 181, .inr (.inl f)))] sz) [(h0, .inr (7, [.ref tp, .ref sc, .ref rd, .ref cu, .ref im, .ref ig, .ref sl, .ref se, .ref su, .ref fc])), (su, .inr (5, [.ref wa])), (wa, .inl (cJ, 181, .inr (.inl f2)))]) (va_A [(h0, .inr (7, [.ref tp, .ref sc, .ref rd, .ref cu, .ref im, .ref ig, .ref sl, .ref se, .ref su, .ref fc])), (su, .inr (5, [.ref wa])), (wa, .inl (cJ, 181, .inr (.inl f)))] sz)) 0 0 (va_A [(h0, .inr (7, [.ref tp, .ref sc, .ref rd, .ref cu, .ref im, .ref ig, .ref sl, .ref se, .ref su, .ref fc])), (su, .inr (5, [.ref wa])), (wa, .inl (cJ, 181, .inr (.inl f)))] sz) := by
  refine Met.ofW (cc := cX9_dice) (maxL := 4) (ret := (some .long)) (by decide) rfl ?_
  intro p e s m args below meth c s₁ B hml hv
  obtain ⟨rfl, hsz, hP, hK, hD0, hN⟩ := hv
  have hx := B.exec
  have hb := B.bytes
  have hr := B.returns
  have hts := atoms_spec (ws := quX9_dice) B.pre
  have hown : s.vm.findClass RX9 = some m.cls := findClass_of_methodNamed B.named
  have hlocks := B.notSynchronized
  subst hsz
  have hD := hD0.self (sz := s.heap.size)
  generalize hAe : va_A [(h0, .inr (7, [.ref tp, .ref sc, .ref rd, .ref cu, .ref im, .ref ig, .ref sl, .ref se, .ref su, .ref fc])), (su, .inr (5, [.ref wa])), (wa, .inl (cJ, 181, .inr (.inl f)))] s.heap.size = A at hD ⊢
  have hA : ∀ q : Nat, s.heap.size ≤ q → A q := fun q h => by rw [← hAe]; exact Or.inr h
  have hS : va_S A s.heap s.heap [] := va_S.rf
  have hP : va_P (dC, dI) vwCl [(h0, .inr (7, [.ref tp, .ref sc, .ref rd, .ref cu, .ref im, .ref ig, .ref sl, .ref se, .ref su, .ref fc])), (su, .inr (5, [.ref wa])), (wa, .inl (cJ, 181, .inr (.inl f)))] s.heap := hP
  have hl := lv_entry ([.ref h0, .int a1, .int a2, .int a3]) (n := 4) (Nat.le_of_ble_eq_true rfl)
  rw [lg_entry_eq]
  generalize (lg_sl ([.ref h0, .int a1, .int a2, .int a3]) ++ List.replicate (4 - (lg_sl ([.ref h0, .int a1, .int a2, .int a3])).length) Slot.unset).toArray = ls at hl ⊢
  have hl : lv_has ls 4 [(0, .ref h0), (1, .int a1), (2, .int a2), (3, .int a3)] := hl
  refine lv_iload_n hx hb dX9_dice_0 rfl (lv_at hl 1 rfl) ?_
  refine lv_iload_n hx hb dX9_dice_1 rfl (lv_at hl 2 rfl) ?_
  refine vp_callSi (W.runS (As := [.int a1, .int a2]) (rest := []) ⟨hx, hb, hml, hown, hts⟩ (qkX9_isLong l dC dI a1 a2) (va_cwS 2 hts qgX9_dice__X9_isLong_S318 rfl rfl rfl (by decide +kernel) ⟨lel 2 2 rfl, lel 43 47 rfl⟩) ⟨pn_fb, pn_use⟩ rfl rfl hl.1 rfl (lv_room (Nat.le_of_ble_eq_true rfl)) dX9_dice_2 ⟨lel 0 0 rfl, lel 0 0 rfl⟩) (fun r_1 hr_1 => ?_)
  refine lv_if_eq (tgt := 19) hx hb dX9_dice_5 (by decide) (fun c_2 => ?_) (fun c_2 => ?_)
  ·
    refine lv_ldc2 (v := (-2)) hx hb hown (hts (.constantLong RX9 265 (-2)) (List.mem_of_getElem? (i := 8) rfl)) dX9_dice_19 ?_
    have hP9 := hP.sub (ws' := [(h0, .inr (7, [.ref tp, .ref sc, .ref rd, .ref cu, .ref im, .ref ig, .ref sl, .ref se, .ref su, .ref fc])), (su, .inr (5, [.ref wa])), (wa, .inl (cJ, 181, .inr (.inl f)))]) [0, 1, 2] rfl
    have hD9 := hD.sub (ws' := [(h0, .inr (7, [.ref tp, .ref sc, .ref rd, .ref cu, .ref im, .ref ig, .ref sl, .ref se, .ref su, .ref fc])), (su, .inr (5, [.ref wa])), (wa, .inl (cJ, 181, .inr (.inl f)))]) [0, 1, 2] (by decide) rfl
    have hK9 := hK.sub (tys' := [(cJ, .long)]) [0] rfl
    exact W.lret (v := (-2)) hx hb hr (fun t ht hW => ⟨⟨(-2), (), rfl, dc_a (hr_1.symm.trans c_2), f, by rw [ht]; exact hP9, va_K.moved hW.alike hK9, hD9⟩, hS.F ht⟩) hS.2.2 dX9_dice_22
  ·
    refine lv_iload_n hx hb dX9_dice_8 rfl (lv_at hl 3 rfl) ?_
    refine lv_iconst (v := 0) hx hb dX9_dice_9 (by decide) ?_
    refine lv_sipush (v := 200) hx hb dX9_dice_10 (by decide) ?_
    refine vp_callSi (W.runS (As := [.int a3, .int 0, .int 200]) (rest := []) ⟨hx, hb, hml, hown, hts⟩ (qkX9_isWithin l dC dI a3 0 200) (va_cwS 3 hts qgX9_dice__X9_isWithin_S158 rfl rfl rfl (by decide +kernel) ⟨lel 1 2 rfl, lel 22 47 rfl⟩) ⟨pn_fb, pn_use⟩ rfl rfl hl.1 rfl (lv_room (Nat.le_of_ble_eq_true rfl)) dX9_dice_13 ⟨lel 0 0 rfl, lel 0 0 rfl⟩) (fun r_3 hr_3 => ?_)
    refine lv_if_ne (tgt := 23) hx hb dX9_dice_16 (by decide) (fun c_4 => ?_) (fun c_4 => ?_)
    ·
      have hil : ¬ il a1 a2 = 0 := fun e => c_2 (hr_1.trans e)
      have hth : ¬ wi a3 0 200 = 0 := fun e => c_4 (hr_3.trans e)
      obtain ⟨nn, bb, hn1, hn2, hb2, hb3, rfl, rfl⟩ := il_yes hil
      obtain ⟨qq, hq, rfl⟩ := wi_200 hth
      refine lv_aload_n hx hb dX9_dice_23 rfl (lv_at hl 0 rfl) ?_
      refine va_get (D := (dC, dI)) (ci := 7) (v := .ref su) (C := RX9) (T := TX9) (N := 10) hx hb hts qiX9_dice_X9 hown hK hP 0 rfl rfl 8 (by decide) (hts (.fieldLink RX9 64 "LuckyTicket" "sumTable" "LLuckyTicket$SumTable;") (List.mem_of_getElem? (i := 9) rfl)) (fun _ h9 => h9) rfl dX9_dice_24 ?_
      refine lv_iload_n hx hb dX9_dice_27 rfl (lv_at hl 1 rfl) ?_
      refine lv_iload_n hx hb dX9_dice_28 rfl (lv_at hl 2 rfl) ?_
      have hFc := va_free (wc := [(su, .inr (5, [.ref wa])), (wa, .inl (cJ, 181, .inr (.inl f)))]) hD hS hA [1, 2] rfl
      refine va_callv (va_runV (As := [.int (nI nn), .int (nI bb)]) (rest := []) ⟨hx, hb, hml, hown, hts⟩ (qkX6_fill l dC dI su wa cJ f nn bb (s.heap.size) (by omega) (by omega) (by omega)) (cwV 2 hts qgX9_dice__X6_fill_V321 rfl rfl rfl (by decide +kernel) ⟨lel 2 2 rfl, lel 47 47 rfl⟩) ⟨hw_fb, va_recv hK hP (ci := 5) (q0 := 1) rfl rfl, (hw_use hP hD hK hN [1, 2] rfl (by decide) rfl [0] rfl)⟩ rfl rfl hl.1 rfl (lv_room (Nat.le_of_ble_eq_true rfl)) dX9_dice_29 ⟨lel 0 0 rfl, lel 0 0 rfl⟩) hS (fun q _ h => hFc q h) hFc (fun u_6 t H1 locs ht hvm hwr_5 hB hz1 hk1 hS => ?_)
      obtain ⟨f2_7, hf_8, hP1, hK1, hD1⟩ := hB
      rw [ht] at hP1
      have hK1 := va_K.moved hvm.symm hK1
      obtain ⟨hP, hD⟩ := va_join (wr := [(h0, .inr (7, [.ref tp, .ref sc, .ref rd, .ref cu, .ref im, .ref ig, .ref sl, .ref se, .ref su, .ref fc]))]) (w1 := [(su, .inr (5, [.ref wa])), (wa, .inl (cJ, 181, .inr (.inl f2_7)))]) hP hD [1, 2] [0] rfl rfl (by decide) (by decide) hk1 hFc hP1 hD1
      have hK := (hK.sub (tys' := []) [] rfl).app hK1
      generalize H1 = H at hP hS ⊢
      have hP : va_P (dC, dI) vwCl [(h0, .inr (7, [.ref tp, .ref sc, .ref rd, .ref cu, .ref im, .ref ig, .ref sl, .ref se, .ref su, .ref fc])), (su, .inr (5, [.ref wa])), (wa, .inl (cJ, 181, .inr (.inl f2_7)))] H := hP
      have hD : va_D A [(h0, .inr (7, [.ref tp, .ref sc, .ref rd, .ref cu, .ref im, .ref ig, .ref sl, .ref se, .ref su, .ref fc])), (su, .inr (5, [.ref wa])), (wa, .inl (cJ, 181, .inr (.inl f2_7)))] := hD
      have hK : va_K (dC, dI) vwCl [(cJ, .long)] s := hK
      refine lv_aload_n hx hb dX9_dice_32 rfl (lv_at hl 0 rfl) ?_
      refine va_get (D := (dC, dI)) (ci := 7) (v := .ref su) (C := RX9) (T := TX9) (N := 10) hx hb hts qiX9_dice_X9 hown hK hP 0 rfl rfl 8 (by decide) (hts (.fieldLink RX9 64 "LuckyTicket" "sumTable" "LLuckyTicket$SumTable;") (List.mem_of_getElem? (i := 9) rfl)) (fun _ h9 => h9) rfl dX9_dice_33 ?_
      refine lv_iload_n hx hb dX9_dice_36 rfl (lv_at hl 3 rfl) ?_
      refine lv_iload_n hx hb dX9_dice_37 rfl (lv_at hl 1 rfl) ?_
      by_cases hle : nn ≤ qq
      ·
        refine lv_isub hx hb dX9_dice_38 ?_
        refine lv_topi (fun z_9 ez_9 => ?_)
        obtain rfl : z_9 = nI (qq - nn) := ez_9.trans (pk_sub (a := qq) (b := nn) (by omega))
        refine vp_callSl (W.runV (As := [.int (nI (qq - nn))]) (rest := []) ⟨hx, hb, hml, hown, hts⟩ (qkX6_waysTo l dC dI su wa cJ f2_7 (nI (qq - nn))) (cwV 1 hts qgX9_dice__X6_waysTo_V324 rfl rfl rfl (by decide +kernel) ⟨lel 1 2 rfl, lel 21 47 rfl⟩) ⟨pw_fb, va_recv hK hP (ci := 5) (q0 := 1) rfl rfl, (pw_use hP hK hN [1, 2] rfl [0] rfl)⟩ rfl rfl hl.1 rfl (lv_room (Nat.le_of_ble_eq_true rfl)) dX9_dice_39 ⟨lel 0 0 rfl, lel 0 0 rfl⟩) (fun r_10 hr_10 => ?_)
        have hP9 := hP.sub (ws' := [(h0, .inr (7, [.ref tp, .ref sc, .ref rd, .ref cu, .ref im, .ref ig, .ref sl, .ref se, .ref su, .ref fc])), (su, .inr (5, [.ref wa])), (wa, .inl (cJ, 181, .inr (.inl f2_7)))]) [0, 1, 2] rfl
        have hD9 := hD.sub (ws' := [(h0, .inr (7, [.ref tp, .ref sc, .ref rd, .ref cu, .ref im, .ref ig, .ref sl, .ref se, .ref su, .ref fc])), (su, .inr (5, [.ref wa])), (wa, .inl (cJ, 181, .inr (.inl f2_7)))]) [0, 1, 2] (by decide) rfl
        have hK9 := hK.sub (tys' := [(cJ, .long)]) [0] rfl
        exact W.lret (v := r_10) hx hb hr (fun t ht hW => ⟨⟨r_10, (), rfl, dc_c hil hth hn2 hb3 hq (hr_10.trans (dc_x hn2 hb2 hb3 hq hf_8 hle)), f2_7, by rw [ht]; exact hP9, va_K.moved hW.alike hK9, hD9⟩, hS.F ht⟩) hS.2.2 dX9_dice_42
      ·
        refine lv_isub hx hb dX9_dice_38 ?_
        refine lv_topi (fun z_11 ez_11 => ?_)
        refine vp_callSl (W.runV (As := [.int z_11]) (rest := []) ⟨hx, hb, hml, hown, hts⟩ (qkX6_waysTo l dC dI su wa cJ f2_7 z_11) (cwV 1 hts qgX9_dice__X6_waysTo_V324 rfl rfl rfl (by decide +kernel) ⟨lel 1 2 rfl, lel 21 47 rfl⟩) ⟨pw_fb, va_recv hK hP (ci := 5) (q0 := 1) rfl rfl, (pw_use hP hK hN [1, 2] rfl [0] rfl)⟩ rfl rfl hl.1 rfl (lv_room (Nat.le_of_ble_eq_true rfl)) dX9_dice_39 ⟨lel 0 0 rfl, lel 0 0 rfl⟩) (fun r_12 hr_12 => ?_)
        have hP9 := hP.sub (ws' := [(h0, .inr (7, [.ref tp, .ref sc, .ref rd, .ref cu, .ref im, .ref ig, .ref sl, .ref se, .ref su, .ref fc])), (su, .inr (5, [.ref wa])), (wa, .inl (cJ, 181, .inr (.inl f2_7)))]) [0, 1, 2] rfl
        have hD9 := hD.sub (ws' := [(h0, .inr (7, [.ref tp, .ref sc, .ref rd, .ref cu, .ref im, .ref ig, .ref sl, .ref se, .ref su, .ref fc])), (su, .inr (5, [.ref wa])), (wa, .inl (cJ, 181, .inr (.inl f2_7)))]) [0, 1, 2] (by decide) rfl
        have hK9 := hK.sub (tys' := [(cJ, .long)]) [0] rfl
        exact W.lret (v := r_12) hx hb hr (fun t ht hW => ⟨⟨r_12, (), rfl, dc_c hil hth hn2 hb3 hq ((hr_12.trans (by rw [ez_11])).trans (dc_y hn2 hb2 hle)), f2_7, by rw [ht]; exact hP9, va_K.moved hW.alike hK9, hD9⟩, hS.F ht⟩) hS.2.2 dX9_dice_42
    ·
      refine lv_ldc2 (v := (-2)) hx hb hown (hts (.constantLong RX9 265 (-2)) (List.mem_of_getElem? (i := 8) rfl)) dX9_dice_19 ?_
      have hP9 := hP.sub (ws' := [(h0, .inr (7, [.ref tp, .ref sc, .ref rd, .ref cu, .ref im, .ref ig, .ref sl, .ref se, .ref su, .ref fc])), (su, .inr (5, [.ref wa])), (wa, .inl (cJ, 181, .inr (.inl f)))]) [0, 1, 2] rfl
      have hD9 := hD.sub (ws' := [(h0, .inr (7, [.ref tp, .ref sc, .ref rd, .ref cu, .ref im, .ref ig, .ref sl, .ref se, .ref su, .ref fc])), (su, .inr (5, [.ref wa])), (wa, .inl (cJ, 181, .inr (.inl f)))]) [0, 1, 2] (by decide) rfl
      have hK9 := hK.sub (tys' := [(cJ, .long)]) [0] rfl
      exact W.lret (v := (-2)) hx hb hr (fun t ht hW => ⟨⟨(-2), (), rfl, dc_b (hr_3.symm.trans c_4), f, by rw [ht]; exact hP9, va_K.moved hW.alike hK9, hD9⟩, hS.F ht⟩) hS.2.2 dX9_dice_22
def quX10_fillWays : List Cond := List.cons (.code yX10_fillWays cX10_fillWays 7 none) (HAppend.hAppend ([.fieldLink RX10 58 "LuckyTicketModel" "ways" "[J", .fieldLink RX10 62 "LuckyTicketModel" "waysOn" "[J"] : List Cond) wsX100)
theorem qiX10_fillWays_X10 : ∀ w ∈ wsX100, w ∈ quX10_fillWays := fun _ h => List.mem_cons_of_mem _ (List.mem_append_right _ h)
