def sgl (f : Nat → Int64) (s lo : Nat) : Nat → Int64
  | 0 => 0
  | k + 1 => sgl f s lo k + f (s - (lo + k))
def cv (lo hi s : Nat) : Nat := min (hi + 1) (s + 1) - lo
def TT (lo hi : Nat) : Nat → Nat → Int64
  | 0, s => if s = 0 then 1 else 0
  | n + 1, s => sgl (TT lo hi n) s lo (cv lo hi s)
def pf (f : Nat → Int64) : Nat → Int64
  | 0 => f 0
  | k + 1 => f (k + 1) + pf f k
theorem pf_z (f : Nat → Int64) : ∀ j, j < 1 → f j = pf f j := fun j h => by
  cases j with
  | zero => rfl
  | succ k => exact absurd h (by omega)
theorem sgl_cong {f g : Nat → Int64} {s lo : Nat} (h : ∀ j, j ≤ s → f j = g j) : ∀ k, sgl f s lo k = sgl g s lo k
  | 0 => rfl
  | k + 1 => by
    show sgl f s lo k + f (s - (lo + k)) = sgl g s lo k + g (s - (lo + k))
    rw [sgl_cong h k, h _ (Nat.sub_le _ _)]
theorem sgl_zero {f : Nat → Int64} {s lo : Nat} : ∀ k, (∀ v, v < k → f (s - (lo + v)) = 0) → sgl f s lo k = 0
  | 0, _ => rfl
  | k + 1, h => by
    show sgl f s lo k + f (s - (lo + k)) = 0
    rw [sgl_zero k (fun v hv => h v (by omega)), h k (by omega)]; rfl
theorem pf_sg (f : Nat → Int64) (s : Nat) : ∀ k, k ≤ s → pf f s = sgl f s 0 k + pf f (s - k)
  | 0, _ => by
    show pf f s = 0 + pf f (s - 0)
    rw [Int64.zero_add]; rfl
  | k + 1, h => by
    rw [pf_sg f s k (by omega)]
    show _ = sgl f s 0 k + f (s - (0 + k)) + pf f (s - (k + 1))
    have e : s - k = s - (k + 1) + 1 := by omega
    rw [e, Int64.add_assoc, Nat.zero_add, e]; rfl
theorem pf_all (f : Nat → Int64) (s : Nat) : pf f s = sgl f s 0 (s + 1) := by
  rw [pf_sg f s s (Nat.le_refl s)]
  show _ = sgl f s 0 s + f (s - (0 + s))
  rw [Nat.zero_add, Nat.sub_self]; rfl
theorem pf_sub (f : Nat → Int64) {s b : Nat} (h : b ≤ s) : pf f s - pf f (s - b) = sgl f s 0 b := by
  rw [pf_sg f s b h, Int64.add_sub_cancel]
theorem adA {f f1 : Nat → Int64} {i : Nat} {z z1 z2 : Int64} (hi : 1 ≤ i) (h181 : i < 181) (ez : z = z1 + z2) (e1 : z1 = f1 i) (e2 : z2 = f1 (i - 1)) (hA : ∀ j, j < i → f1 j = pf f j) (hB : ∀ j, i ≤ j → j < 181 → f1 j = f j) : ∀ j, j < i + 1 → vp_updL f1 i z j = pf f j := by
  intro j hj
  by_cases e : j = i
  · subst e
    rw [pk_uLs, ez, e1, e2, hB j (Nat.le_refl j) h181, hA (j - 1) (by omega)]
    obtain ⟨k, rfl⟩ : ∃ k, j = k + 1 := ⟨j - 1, by omega⟩
    rfl
  · rw [pk_uLn e]; exact hA j (by omega)
theorem adB {f f1 : Nat → Int64} {i : Nat} {z : Int64} (hB : ∀ j, i ≤ j → j < 181 → f1 j = f j) : ∀ j, i + 1 ≤ j → j < 181 → vp_updL f1 i z j = f j := by
  intro j h1 h2
  rw [pk_uLn (by omega)]; exact hB j (by omega) h2
theorem adC {f g1 : Nat → Int64} {i : Nat} {z : Int64} (hC : ∀ j, j ≤ i → g1 j = pf f j) (h : 1 ≤ i) : ∀ j, j ≤ i - 1 → vp_updL g1 i z j = pf f j := by
  intro j h1
  rw [pk_uLn (by omega)]; exact hC j (by omega)
theorem adD {f g1 : Nat → Int64} {i b : Nat} {z z1 z2 : Int64} (hb : 1 ≤ b) (hi : b ≤ i) (ez : z = z1 - z2) (e1 : z1 = g1 i) (e2 : z2 = g1 (i - b)) (hC : ∀ j, j ≤ i → g1 j = pf f j) (hD : ∀ j, i < j → j < 181 → g1 j = pf f j - pf f (j - b)) : ∀ j, i - 1 < j → j < 181 → vp_updL g1 i z j = pf f j - pf f (j - b) := by
  intro j h1 h2
  by_cases e : j = i
  · subst e
    rw [pk_uLs, ez, e1, e2, hC j (Nat.le_refl j), hC (j - b) (by omega)]
  · rw [pk_uLn e]; exact hD j (by omega) h2
theorem adF {f g1 : Nat → Int64} {i b : Nat} (hb : 1 ≤ b) (hi : i + 1 = b) (hC : ∀ j, j ≤ i → g1 j = pf f j) (hD : ∀ j, i < j → j < 181 → g1 j = pf f j - pf f (j - b)) : ∀ j, j < 181 → g1 j = sgl f j 0 (cv 0 (b - 1) j) := by
  intro j hj
  by_cases e : j ≤ i
  · rw [hC j e, pf_all, show cv 0 (b - 1) j = j + 1 by unfold cv; omega]
  · rw [hD j (by omega) hj, pf_sub f (by omega), show cv 0 (b - 1) j = b by unfold cv; omega]
def wt (f : Nat → Int64) (a : Int32) : Int64 := if wi a 0 180 = 0 then 0 else f a.toNatClampNeg
theorem wt_a {f : Nat → Int64} {a : Int32} (h : a < 0) : (0 : Int64) = wt f a := (if_pos (wi_a h).symm).symm
theorem wt_b {f : Nat → Int64} {a : Int32} (h : 180 < a) : (0 : Int64) = wt f a := (if_pos (wi_b h).symm).symm
theorem wt_c {f : Nat → Int64} {a : Int32} (h1 : ¬ a < 0) (h2 : ¬ 180 < a) : f a.toNatClampNeg = wt f a := by
  have e : wi a 0 180 = 1 := (wi_1 h1 h2).symm
  unfold wt; rw [if_neg (by rw [e]; decide)]
theorem wt_in {a : Int32} (h1 : ¬ a < 0) (h2 : ¬ 180 < a) : vp_in a 181 := by
  obtain ⟨j, hj, rfl⟩ := nI_of2 (n := 180) (M := 180) (by decide) h1 (fa_nlt2 h2)
  exact vp_in_nI (by omega) (by decide)
theorem wt_nat {f g : Nat → Int64} {q : Nat} (hq : q ≤ 180) (h : ∀ j, j < 181 → f j = g j) : wt f (nI q) = g q := by
  have e : ¬ wi (nI q) 0 180 = 0 := by
    have e1 : wi (nI q) 0 180 = 1 := (wi_1 (nI_pos (by omega)) (nI_nlt (a := 180) (b := q) hq (by decide))).symm
    rw [e1]; decide
  unfold wt; rw [if_neg e, nI_clamp (by omega)]; exact h q (by omega)
theorem T0 {f : Nat → Int64} {h : Nat} (hf : ∀ j, j < 181 → f j = 0) : ∀ j, j < 181 → vp_updL f (0 : Int32).toNatClampNeg 1 j = TT 0 h 0 j := by
  intro j hj
  rw [show (0 : Int32).toNatClampNeg = 0 by decide]
  by_cases e : j = 0
  · subst e; rw [pk_uLs]; rfl
  · rw [pk_uLn e, hf j hj]; simp [TT, e]
def il (a b : Int32) : Int32 := if wi a 1 12 = 0 ∨ wi b 2 16 = 0 then 0 else 1
theorem il_a {a b : Int32} (h : wi a 1 12 = 0) : (0 : Int32) = il a b := (if_pos (Or.inl h)).symm
theorem il_b {a b : Int32} (h : wi b 2 16 = 0) : (0 : Int32) = il a b := (if_pos (Or.inr h)).symm
theorem il_1 {a b : Int32} (h1 : ¬ wi a 1 12 = 0) (h2 : ¬ wi b 2 16 = 0) : (1 : Int32) = il a b := (if_neg (fun q => q.elim h1 h2)).symm
theorem il_yes {a b : Int32} (h : ¬ il a b = 0) : ∃ n b' : Nat, 1 ≤ n ∧ n ≤ 12 ∧ 2 ≤ b' ∧ b' ≤ 16 ∧ a = nI n ∧ b = nI b' := by
  by_cases q1 : wi a 1 12 = 0
  · exact absurd (il_a q1).symm h
  · by_cases q2 : wi b 2 16 = 0
    · exact absurd (il_b q2).symm h
    · obtain ⟨n, h1, h2, rfl⟩ := wi_rg (k := 12) (by decide) (by decide) q1
      have q := wi_yes q2
      have q0 := Int32.le_iff_toInt_le.mp q.1
      have z2 : (2 : Int32).toInt = 2 := by decide
      have z0 : (0 : Int32).toInt = 0 := by decide
      have hn : ¬ b < 0 := fun c => by have := Int32.lt_iff_toInt_lt.mp c; omega
      obtain ⟨j, hj, rfl⟩ := nI_of2 (n := 16) (M := 16) (by decide) hn q.2
      refine ⟨n, j, h1, h2, ?_, hj, rfl, rfl⟩
      have := nI_toInt (n := j) (by omega)
      omega
theorem wi_180 {a : Int32} (h : ¬ wi a 0 180 = 0) : ∃ q : Nat, q ≤ 180 ∧ a = nI q := wi_nat (by decide) h
theorem wi_200 {a : Int32} (h : ¬ wi a 0 200 = 0) : ∃ q : Nat, q ≤ 200 ∧ a = nI q := wi_nat (by decide) h
def ofv (a b c : Int32) : Int64 := if il a b = 0 ∨ wi c 0 180 = 0 then -2 else TT 0 (b.toNatClampNeg - 1) a.toNatClampNeg c.toNatClampNeg
theorem of_a {a b c : Int32} (h : il a b = 0) : (-2 : Int64) = ofv a b c := (if_pos (Or.inl h)).symm
theorem of_b {a b c : Int32} (h : wi c 0 180 = 0) : (-2 : Int64) = ofv a b c := (if_pos (Or.inr h)).symm
theorem of_c {n b q : Nat} {r : Int64} (h1 : ¬ il (nI n) (nI b) = 0) (h2 : ¬ wi (nI q) 0 180 = 0) (hn : n ≤ 12) (hb : b ≤ 16) (hq : q ≤ 180) (h : r = TT 0 (b - 1) n q) : r = ofv (nI n) (nI b) (nI q) := by
  unfold ofv; rw [if_neg (fun c => c.elim h1 h2), nI_clamp (by omega), nI_clamp (by omega), nI_clamp (by omega)]; exact h
def hs (g : Nat → Int64) : Nat → Int64
  | 0 => 0
  | k + 1 => hs g k + g k * g k
def hvv (a b : Int32) : Int64 := if il a b = 0 ∨ ¬ a.toNatClampNeg % 2 = 0 then -2 else hs (TT 0 (b.toNatClampNeg - 1) (a.toNatClampNeg / 2)) 181
theorem hv_a {a b : Int32} (h : il a b = 0) : (-2 : Int64) = hvv a b := (if_pos (Or.inl h)).symm
theorem hv_b {n : Nat} {b : Int32} (hn : n ≤ 12) (h : ¬ n % 2 = 0) : (-2 : Int64) = hvv (nI n) b := (if_pos (Or.inr (by rw [nI_clamp (by omega)]; exact h))).symm
theorem hv_c {n b : Nat} {r : Int64} (h1 : ¬ il (nI n) (nI b) = 0) (hn : n ≤ 12) (hb : b ≤ 16) (h2 : n % 2 = 0) (h : r = hs (TT 0 (b - 1) (n / 2)) 181) : r = hvv (nI n) (nI b) := by
  unfold hvv; rw [nI_clamp (n := n) (by omega), nI_clamp (n := b) (by omega), if_neg (fun c => c.elim h1 (fun q => q h2))]; exact h
def mdv (a b : Int32) : Int64 := if il a b = 0 then -2 else TT 0 (b.toNatClampNeg - 1) a.toNatClampNeg ((b.toNatClampNeg - 1) * a.toNatClampNeg / 2)
theorem md_a {a b : Int32} (h : il a b = 0) : (-2 : Int64) = mdv a b := (if_pos h).symm
theorem md_c {n b : Nat} {r : Int64} (h1 : ¬ il (nI n) (nI b) = 0) (hn : n ≤ 12) (hb : b ≤ 16) (h : r = TT 0 (b - 1) n ((b - 1) * n / 2)) : r = mdv (nI n) (nI b) := by
  unfold mdv; rw [if_neg h1, nI_clamp (n := n) (by omega), nI_clamp (n := b) (by omega)]; exact h
def mbs (g : Nat → Int64) : Nat → Nat
  | 0 => 0
  | k + 1 => if g (mbs g k) < g (k + 1) then k + 1 else mbs g k
theorem mbs_le (g : Nat → Int64) : ∀ k, mbs g k ≤ k
  | 0 => Nat.le_refl 0
  | k + 1 => by
    unfold mbs; split
    · exact Nat.le_refl _
    · exact Nat.le_succ_of_le (mbs_le g k)
def msv (a b : Int32) : Int32 := if il a b = 0 then -2 else nI (mbs (TT 0 (b.toNatClampNeg - 1) a.toNatClampNeg) 180)
theorem ms_a {a b : Int32} (h : il a b = 0) : (-2 : Int32) = msv a b := (if_pos h).symm
theorem ms_c {n b : Nat} {q : Nat} (h1 : ¬ il (nI n) (nI b) = 0) (hn : n ≤ 12) (hb : b ≤ 16) (h : q = mbs (TT 0 (b - 1) n) 180) : nI q = msv (nI n) (nI b) := by
  unfold msv; rw [if_neg h1, nI_clamp (n := n) (by omega), nI_clamp (n := b) (by omega), h]
def dcv (a b c : Int32) : Int64 := if il a b = 0 ∨ wi c 0 200 = 0 then -2 else TT 1 b.toNatClampNeg a.toNatClampNeg c.toNatClampNeg
theorem dc_a {a b c : Int32} (h : il a b = 0) : (-2 : Int64) = dcv a b c := (if_pos (Or.inl h)).symm
theorem dc_b {a b c : Int32} (h : wi c 0 200 = 0) : (-2 : Int64) = dcv a b c := (if_pos (Or.inr h)).symm
theorem dc_c {n b q : Nat} {r : Int64} (h1 : ¬ il (nI n) (nI b) = 0) (h2 : ¬ wi (nI q) 0 200 = 0) (hn : n ≤ 12) (hb : b ≤ 16) (hq : q ≤ 200) (h : r = TT 1 b n q) : r = dcv (nI n) (nI b) (nI q) := by
  unfold dcv; rw [if_neg (fun c => c.elim h1 h2), nI_clamp (by omega), nI_clamp (by omega), nI_clamp (by omega)]; exact h
theorem TT_out (h : Nat) : ∀ n s, n * h < s → TT 0 h n s = 0
  | 0, s, q => by
    have e : ¬ s = 0 := by omega
    simp [TT, e]
  | n + 1, s, q => by
    show sgl (TT 0 h n) s 0 (cv 0 h s) = 0
    refine sgl_zero _ (fun v hv => TT_out h n _ ?_)
    have e : (n + 1) * h = n * h + h := Nat.succ_mul n h
    have e2 : v < h + 1 := by unfold cv at hv; omega
    omega
theorem TT_z (h : Nat) : ∀ n, TT 0 h n 0 = 1
  | 0 => rfl
  | n + 1 => by
    show sgl (TT 0 h n) 0 0 (cv 0 h 0) = 1
    rw [show cv 0 h 0 = 1 by unfold cv; omega]
    show (0 : Int64) + TT 0 h n (0 - (0 + 0)) = 1
    rw [show 0 - (0 + 0) = 0 from rfl, TT_z h n]; rfl
theorem hs_out {g : Nat → Int64} {a : Nat} : ∀ k, (∀ s, a ≤ s → g s = 0) → hs g (a + k) = hs g a
  | 0, _ => rfl
  | k + 1, h => by
    show hs g (a + k) + g (a + k) * g (a + k) = hs g a
    rw [hs_out k h, h (a + k) (by omega), Int64.mul_zero, Int64.add_zero]
theorem mbs_ge (g : Nat → Int64) : ∀ k, g 0 ≤ g (mbs g k)
  | 0 => Int64.le_refl _
  | k + 1 => by
    unfold mbs; split
    · rename_i q; exact Int64.le_trans (mbs_ge g k) (Int64.le_of_lt q)
    · exact mbs_ge g k
theorem mbs_out {g : Nat → Int64} {a : Nat} (h0 : g 0 = 1) : ∀ k, (∀ s, a < s → g s = 0) → mbs g (a + k) = mbs g a
  | 0, _ => rfl
  | k + 1, h => by
    show (if g (mbs g (a + k)) < g (a + k + 1) then a + k + 1 else mbs g (a + k)) = mbs g a
    rw [h (a + k + 1) (by omega), if_neg ?_, mbs_out h0 k h]
    intro q
    have q2 := mbs_ge g (a + k)
    rw [h0] at q2
    exact absurd (Int64.lt_of_le_of_lt q2 q) (by decide)
theorem dX6_addPlace_0 : decode cX6_addPlace 0 = .ok (.iconst 1, 1) := by decide +kernel
theorem dX6_addPlace_1 : decode cX6_addPlace 1 = .ok (.istore_n 2, 1) := by decide +kernel
theorem dX6_addPlace_2 : decode cX6_addPlace 2 = .ok (.iload_n 2, 1) := by decide +kernel
theorem dX6_addPlace_3 : decode cX6_addPlace 3 = .ok (.sipush 180, 3) := by decide +kernel
theorem dX6_addPlace_6 : decode cX6_addPlace 6 = .ok (.if_icmp .gt 26, 3) := by decide +kernel
theorem dX6_addPlace_9 : decode cX6_addPlace 9 = .ok (.aload_n 0, 1) := by decide +kernel
theorem dX6_addPlace_10 : decode cX6_addPlace 10 = .ok (.getfield 9, 3) := by decide +kernel
theorem dX6_addPlace_13 : decode cX6_addPlace 13 = .ok (.iload_n 2, 1) := by decide +kernel
theorem dX6_addPlace_14 : decode cX6_addPlace 14 = .ok (.dup2, 1) := by decide +kernel
theorem dX6_addPlace_15 : decode cX6_addPlace 15 = .ok (.laload, 1) := by decide +kernel
theorem dX6_addPlace_16 : decode cX6_addPlace 16 = .ok (.aload_n 0, 1) := by decide +kernel
theorem dX6_addPlace_17 : decode cX6_addPlace 17 = .ok (.getfield 9, 3) := by decide +kernel
theorem dX6_addPlace_20 : decode cX6_addPlace 20 = .ok (.iload_n 2, 1) := by decide +kernel
theorem dX6_addPlace_21 : decode cX6_addPlace 21 = .ok (.iconst 1, 1) := by decide +kernel
theorem dX6_addPlace_22 : decode cX6_addPlace 22 = .ok (.isub, 1) := by decide +kernel
theorem dX6_addPlace_23 : decode cX6_addPlace 23 = .ok (.laload, 1) := by decide +kernel
theorem dX6_addPlace_24 : decode cX6_addPlace 24 = .ok (.ladd, 1) := by decide +kernel
theorem dX6_addPlace_25 : decode cX6_addPlace 25 = .ok (.lastore, 1) := by decide +kernel
theorem dX6_addPlace_26 : decode cX6_addPlace 26 = .ok (.iinc 2 1, 3) := by decide +kernel
theorem dX6_addPlace_29 : decode cX6_addPlace 29 = .ok (.goto (-27), 3) := by decide +kernel
theorem dX6_addPlace_32 : decode cX6_addPlace 32 = .ok (.sipush 180, 3) := by decide +kernel
theorem dX6_addPlace_35 : decode cX6_addPlace 35 = .ok (.istore_n 2, 1) := by decide +kernel
theorem dX6_addPlace_36 : decode cX6_addPlace 36 = .ok (.iload_n 2, 1) := by decide +kernel
theorem dX6_addPlace_37 : decode cX6_addPlace 37 = .ok (.iload_n 1, 1) := by decide +kernel
theorem dX6_addPlace_38 : decode cX6_addPlace 38 = .ok (.if_icmp .lt 30, 3) := by decide +kernel
theorem dX6_addPlace_41 : decode cX6_addPlace 41 = .ok (.iload_n 1, 1) := by decide +kernel
theorem dX6_addPlace_42 : decode cX6_addPlace 42 = .ok (.ifCond .le 26, 3) := by decide +kernel
theorem dX6_addPlace_45 : decode cX6_addPlace 45 = .ok (.aload_n 0, 1) := by decide +kernel
theorem dX6_addPlace_46 : decode cX6_addPlace 46 = .ok (.getfield 9, 3) := by decide +kernel
theorem dX6_addPlace_49 : decode cX6_addPlace 49 = .ok (.iload_n 2, 1) := by decide +kernel
theorem dX6_addPlace_50 : decode cX6_addPlace 50 = .ok (.dup2, 1) := by decide +kernel
theorem dX6_addPlace_51 : decode cX6_addPlace 51 = .ok (.laload, 1) := by decide +kernel
theorem dX6_addPlace_52 : decode cX6_addPlace 52 = .ok (.aload_n 0, 1) := by decide +kernel
theorem dX6_addPlace_53 : decode cX6_addPlace 53 = .ok (.getfield 9, 3) := by decide +kernel
theorem dX6_addPlace_56 : decode cX6_addPlace 56 = .ok (.iload_n 2, 1) := by decide +kernel
theorem dX6_addPlace_57 : decode cX6_addPlace 57 = .ok (.iload_n 1, 1) := by decide +kernel
theorem dX6_addPlace_58 : decode cX6_addPlace 58 = .ok (.isub, 1) := by decide +kernel
theorem dX6_addPlace_59 : decode cX6_addPlace 59 = .ok (.laload, 1) := by decide +kernel
theorem dX6_addPlace_60 : decode cX6_addPlace 60 = .ok (.lsub, 1) := by decide +kernel
theorem dX6_addPlace_61 : decode cX6_addPlace 61 = .ok (.lastore, 1) := by decide +kernel
theorem dX6_addPlace_62 : decode cX6_addPlace 62 = .ok (.iinc 2 (-1), 3) := by decide +kernel
theorem dX6_addPlace_65 : decode cX6_addPlace 65 = .ok (.goto (-29), 3) := by decide +kernel
theorem dX6_addPlace_68 : decode cX6_addPlace 68 = .ok (.return_, 1) := by decide +kernel
def uX6_addPlace : List Cond := .code yX6_addPlace cX6_addPlace 3 none :: ([.fieldLink RX6 9 "LuckyTicket$SumTable" "ways" "[J"] ++ wsX60)
theorem iX6_addPlace_X6 : ∀ w ∈ wsX60, w ∈ uX6_addPlace := fun _ h => List.mem_cons_of_mem _ (List.mem_append_right _ h)
set_option maxHeartbeats 4000000 in
set_option maxRecDepth 100000 in
theorem kX6_addPlace (l : Launch) (dC : Nat → ClassId) (dI : Nat → Nat → Nat) (su : Nat) (wa : Nat) (cJ : ClassId) (f : Nat → Int64) (bb : Nat) (sz : Nat) (hb1 : 1 ≤ bb) (hb2 : bb ≤ 16) : Met l yX6_addPlace uX6_addPlace ({ frames := 0, cells := 0, slots := 0, locals := 0 }) (va_Pc [.ref su, .int (nI bb)] (hw (dC, dI) vwCl [(su, .inr (5, [.ref wa])), (wa, .inl (cJ, 181, .inr (.inl f)))] [(cJ, .long)] sz)) (va_Qv (fun (_ : Unit) => True) (fun (_ : Unit) t => ∃ (f2 : Nat → Int64), (∀ j, j < 181 → f2 j = sgl f j 0 (cv 0 (bb - 1) j)) ∧ va_P (dC, dI) vwCl [(su, .inr (5, [.ref wa])), (wa, .inl (cJ, 181, .inr (.inl f2)))] t.heap ∧ va_K (dC, dI) vwCl [(cJ, .long)] t ∧ va_D (va_A [(su, .inr (5, [.ref wa])), (wa, .inl (cJ, 181, .inr (.inl f)))] sz) [(su, .inr (5, [.ref wa])), (wa, .inl (cJ, 181, .inr (.inl f2)))]) (va_A [(su, .inr (5, [.ref wa])), (wa, .inl (cJ, 181, .inr (.inl f)))] sz)) 0 0 (va_A [(su, .inr (5, [.ref wa])), (wa, .inl (cJ, 181, .inr (.inl f)))] sz) := by
  refine Met.ofW (cc := cX6_addPlace) (maxL := 3) (ret := none) (by decide) rfl ?_
  intro p e s m args below meth c s₁ B hml hv
  obtain ⟨rfl, hsz, hP, hK, hD0, hN⟩ := hv
  have hx := B.exec
  have hb := B.bytes
  have hr := B.returns
  have hts := atoms_spec (ws := uX6_addPlace) B.pre
  have hown : s.vm.findClass RX6 = some m.cls := findClass_of_methodNamed B.named
  have hlocks := B.notSynchronized
  subst hsz
  have hD := hD0.self (sz := s.heap.size)
  generalize hAe : va_A [(su, .inr (5, [.ref wa])), (wa, .inl (cJ, 181, .inr (.inl f)))] s.heap.size = A at hD ⊢
  have hA : ∀ q : Nat, s.heap.size ≤ q → A q := fun q h => by rw [← hAe]; exact Or.inr h
  have hS : va_S A s.heap s.heap [] := va_S.rf
  have hP : va_P (dC, dI) vwCl [(su, .inr (5, [.ref wa])), (wa, .inl (cJ, 181, .inr (.inl f)))] s.heap := hP
  have hl := lv_entry ([.ref su, .int (nI bb)]) (n := 3) (Nat.le_of_ble_eq_true rfl)
  rw [lg_entry_eq]
  generalize (lg_sl ([.ref su, .int (nI bb)]) ++ List.replicate (3 - (lg_sl ([.ref su, .int (nI bb)])).length) Slot.unset).toArray = ls at hl ⊢
  have hl : lv_has ls 3 [(0, .ref su), (1, .int (nI bb))] := hl
  refine lv_iconst (v := 1) hx hb dX6_addPlace_0 (by decide) ?_
  refine lv_istore_n (lv' := [(2, .int 1), (0, .ref su), (1, .int (nI bb))]) hx hb dX6_addPlace_1 rfl hl (by decide) rfl (fun ls hl => ?_)
  refine loopW (σ := Nat × (Nat → Int64)) (fun v => 182 - v.1) (fun v H locs ls => (1 ≤ v.1 ∧ v.1 ≤ 181) ∧ (∀ j, j < v.1 → v.2 j = pf f j) ∧ (∀ j, v.1 ≤ j → j < 181 → v.2 j = f j) ∧ va_P (dC, dI) vwCl [(su, .inr (5, [.ref wa])), (wa, .inl (cJ, 181, .inr (.inl v.2)))] H ∧ va_D A [(su, .inr (5, [.ref wa])), (wa, .inl (cJ, 181, .inr (.inl v.2)))] ∧ va_S A s.heap H locs ∧ lv_has ls 3 [(2, .int (nI v.1)), (0, .ref su), (1, .int (nI bb))]) (fun v H locs ls hI ih => ?_) (1, f) ⟨(show 1 ≤ 1 ∧ 1 ≤ 181 from (by omega)), (show ∀ j, j < 1 → f j = pf f j from pf_z f), (show ∀ j, 1 ≤ j → j < 181 → f j = f j from (fun j _ _ => rfl)), hP, hD, hS, hl⟩
  obtain ⟨i, f1⟩ := v
  obtain ⟨hi, hA, hB, hP, hD, hS, hl⟩ := hI
  have hi : 1 ≤ i ∧ i ≤ 181 := hi
  have hA : ∀ j, j < i → f1 j = pf f j := hA
  have hB : ∀ j, i ≤ j → j < 181 → f1 j = f j := hB
  have hP : va_P (dC, dI) vwCl [(su, .inr (5, [.ref wa])), (wa, .inl (cJ, 181, .inr (.inl f1)))] H := hP
  have hD : va_D A [(su, .inr (5, [.ref wa])), (wa, .inl (cJ, 181, .inr (.inl f1)))] := hD
  have hl : lv_has ls 3 [(2, .int (nI i)), (0, .ref su), (1, .int (nI bb))] := hl
  have hi1 := hi.1
  have hi2 := hi.2
  refine lv_iload_n hx hb dX6_addPlace_2 rfl (lv_at hl 0 rfl) ?_
  refine lv_sipush (v := 180) hx hb dX6_addPlace_3 (by decide) ?_
  refine lv_icmp_gt (tgt := 32) hx hb dX6_addPlace_6 (by decide) (fun c_1 => ?_) (fun c_1 => ?_)
  ·
    have nc_1 : 180 < i := (nI_ltI (a := 180) (b := i) (by omega) (by omega)).mp c_1
    refine lv_sipush (v := 180) hx hb dX6_addPlace_32 (by decide) ?_
    refine lv_istore_n (lv' := [(2, .int 180), (0, .ref su), (1, .int (nI bb))]) hx hb dX6_addPlace_35 rfl hl (by decide) rfl (fun ls hl => ?_)
    refine loopW (σ := Nat × (Nat → Int64)) (fun v => v.1 + 1) (fun v H locs ls => (v.1 ≤ 180 ∧ bb ≤ v.1 + 1) ∧ (∀ j, j ≤ v.1 → v.2 j = pf f j) ∧ (∀ j, v.1 < j → j < 181 → v.2 j = pf f j - pf f (j - bb)) ∧ va_P (dC, dI) vwCl [(su, .inr (5, [.ref wa])), (wa, .inl (cJ, 181, .inr (.inl v.2)))] H ∧ va_D A [(su, .inr (5, [.ref wa])), (wa, .inl (cJ, 181, .inr (.inl v.2)))] ∧ va_S A s.heap H locs ∧ lv_has ls 3 [(2, .int (nI v.1)), (0, .ref su), (1, .int (nI bb))]) (fun v H locs ls hI ih => ?_) (180, f1) ⟨(show 180 ≤ 180 ∧ bb ≤ 180 + 1 from (by omega)), (show ∀ j, j ≤ 180 → f1 j = pf f j from (fun j hj => hA j (by omega))), (show ∀ j, 180 < j → j < 181 → f1 j = pf f j - pf f (j - bb) from (fun j h1 h2 => absurd h1 (by omega))), hP, hD, hS, hl⟩
    obtain ⟨k, g1⟩ := v
    obtain ⟨hk, hC, hDD, hP, hD, hS, hl⟩ := hI
    have hk : k ≤ 180 ∧ bb ≤ k + 1 := hk
    have hC : ∀ j, j ≤ k → g1 j = pf f j := hC
    have hDD : ∀ j, k < j → j < 181 → g1 j = pf f j - pf f (j - bb) := hDD
    have hP : va_P (dC, dI) vwCl [(su, .inr (5, [.ref wa])), (wa, .inl (cJ, 181, .inr (.inl g1)))] H := hP
    have hD : va_D A [(su, .inr (5, [.ref wa])), (wa, .inl (cJ, 181, .inr (.inl g1)))] := hD
    have hl : lv_has ls 3 [(2, .int (nI k)), (0, .ref su), (1, .int (nI bb))] := hl
    have hk1 := hk.1
    have hk2 := hk.2
    refine lv_iload_n hx hb dX6_addPlace_36 rfl (lv_at hl 0 rfl) ?_
    refine lv_iload_n hx hb dX6_addPlace_37 rfl (lv_at hl 2 rfl) ?_
    refine lv_icmp_lt (tgt := 68) hx hb dX6_addPlace_38 (by decide) (fun c_2 => ?_) (fun c_2 => ?_)
    ·
      have nc_2 : k < bb := (nI_ltI (a := k) (b := bb) (by omega) (by omega)).mp c_2
      have hP9 := hP.sub (ws' := [(su, .inr (5, [.ref wa])), (wa, .inl (cJ, 181, .inr (.inl g1)))]) [0, 1] rfl
      have hD9 := hD.sub (ws' := [(su, .inr (5, [.ref wa])), (wa, .inl (cJ, 181, .inr (.inl g1)))]) [0, 1] (by decide) rfl
      have hK9 := hK.sub (tys' := [(cJ, .long)]) [0] rfl
      exact W.vret hx hb hr (fun t ht hW => ⟨⟨(), rfl, trivial, g1, adF hb1 (by omega) hC hDD, by rw [ht]; exact hP9, va_K.moved hW.alike hK9, hD9⟩, hS.F ht⟩) hS.2.2 dX6_addPlace_68
    ·
      have nc_2 : ¬ k < bb := fun q => c_2 ((nI_ltI (a := k) (b := bb) (by omega) (by omega)).mpr q)
      refine lv_iload_n hx hb dX6_addPlace_41 rfl (lv_at hl 2 rfl) ?_
      refine lv_if_le (tgt := 68) hx hb dX6_addPlace_42 (by decide) (fun c_3 => absurd (show nI bb ≤ 0 from c_3) (nI_nle (by omega) (by omega))) (fun c_3 => ?_)
      refine lv_aload_n hx hb dX6_addPlace_45 rfl (lv_at hl 1 rfl) ?_
      refine va_get (D := (dC, dI)) (ci := 5) (v := .ref wa) (C := RX6) (T := TX6) (N := 1) hx hb hts iX6_addPlace_X6 hown hK hP 0 rfl rfl 0 (by decide) (hts (.fieldLink RX6 9 "LuckyTicket$SumTable" "ways" "[J") (List.mem_of_getElem? (i := 1) rfl)) (fun _ h9 => h9) rfl dX6_addPlace_46 ?_
      refine lv_iload_n hx hb dX6_addPlace_49 rfl (lv_at hl 0 rfl) ?_
      refine lv_dup2_11 hx hb dX6_addPlace_50 rfl rfl ?_
      refine va_lald hx hb hK hP 1 0 rfl rfl (vp_in_nI (n := k) (by omega) (by decide)) dX6_addPlace_51 ?_
      refine lv_topl (fun z_4 ez_4 => ?_)
      rw [nI_clamp (n := k) (by omega)] at ez_4
      refine lv_aload_n hx hb dX6_addPlace_52 rfl (lv_at hl 1 rfl) ?_
      refine va_get (D := (dC, dI)) (ci := 5) (v := .ref wa) (C := RX6) (T := TX6) (N := 1) hx hb hts iX6_addPlace_X6 hown hK hP 0 rfl rfl 0 (by decide) (hts (.fieldLink RX6 9 "LuckyTicket$SumTable" "ways" "[J") (List.mem_of_getElem? (i := 1) rfl)) (fun _ h9 => h9) rfl dX6_addPlace_53 ?_
      refine lv_iload_n hx hb dX6_addPlace_56 rfl (lv_at hl 0 rfl) ?_
      refine lv_iload_n hx hb dX6_addPlace_57 rfl (lv_at hl 2 rfl) ?_
      refine lv_isub hx hb dX6_addPlace_58 ?_
      refine lv_topi (fun z_5 ez_5 => ?_)
      obtain rfl : z_5 = nI (k - bb) := ez_5.trans (pk_sub (a := k) (b := bb) (by omega))
      refine va_lald hx hb hK hP 1 0 rfl rfl (vp_in_nI (n := k - bb) (by omega) (by decide)) dX6_addPlace_59 ?_
      refine lv_topl (fun z_6 ez_6 => ?_)
      rw [nI_clamp (n := k - bb) (by omega)] at ez_6
      refine lv_lsub hx hb dX6_addPlace_60 ?_
      refine lv_topl (fun z_7 ez_7 => ?_)
      refine va_last hx hb hK hP hD hS 1 0 rfl rfl (vp_in_nI (n := k) (by omega) (by decide)) dX6_addPlace_61 (fun H locs hP hD hS => ?_)
      have hP : va_P (dC, dI) vwCl [(su, .inr (5, [.ref wa])), (wa, .inl (cJ, 181, .inr (.inl (vp_updL g1 ((nI k) : Int32).toNatClampNeg z_7))))] H := hP
      have hD : va_D A [(su, .inr (5, [.ref wa])), (wa, .inl (cJ, 181, .inr (.inl (vp_updL g1 ((nI k) : Int32).toNatClampNeg z_7))))] := hD
      rw [nI_clamp (n := k) (by omega)] at hP hD
      have hP : va_P (dC, dI) vwCl [(su, .inr (5, [.ref wa])), (wa, .inl (cJ, 181, .inr (.inl (vp_updL g1 k z_7))))] H := hP
      have hD : va_D A [(su, .inr (5, [.ref wa])), (wa, .inl (cJ, 181, .inr (.inl (vp_updL g1 k z_7))))] := hD
      obtain ⟨z_8, ez_8⟩ : ∃ y : Int32, y = nI k + (-1) := ⟨_, rfl⟩
      refine lv_iinc (v := z_8) (lv' := [(2, .int z_8), (0, .ref su), (1, .int (nI bb))]) hx hb dX6_addPlace_62 hl (k := 0) rfl (by rw [ez_8]; rfl) (by decide) rfl (fun ls hl => ?_)
      obtain rfl : z_8 = nI (k - 1) := ez_8.trans (sb_m1 (p := k) (by omega))
      refine lv_goto (tgt := 36) hx hb dX6_addPlace_65 (by decide) ?_
      exact ih (k - 1, vp_updL g1 k z_7) _ _ _ ⟨(show (k - 1) ≤ 180 ∧ bb ≤ (k - 1) + 1 from (by omega)), (show ∀ j, j ≤ (k - 1) → (vp_updL g1 k z_7) j = pf f j from adC hC (by omega)), (show ∀ j, (k - 1) < j → j < 181 → (vp_updL g1 k z_7) j = pf f j - pf f (j - bb) from adD hb1 (by omega) ez_7 ez_4 ez_6 hC hDD), hP, hD, hS, lv_sub hl [0, 1, 2] rfl⟩ (show (k - 1) + 1 < k + 1 by omega)
  ·
    have nc_1 : ¬ 180 < i := fun q => c_1 ((nI_ltI (a := 180) (b := i) (by omega) (by omega)).mpr q)
    refine lv_aload_n hx hb dX6_addPlace_9 rfl (lv_at hl 1 rfl) ?_
    refine va_get (D := (dC, dI)) (ci := 5) (v := .ref wa) (C := RX6) (T := TX6) (N := 1) hx hb hts iX6_addPlace_X6 hown hK hP 0 rfl rfl 0 (by decide) (hts (.fieldLink RX6 9 "LuckyTicket$SumTable" "ways" "[J") (List.mem_of_getElem? (i := 1) rfl)) (fun _ h9 => h9) rfl dX6_addPlace_10 ?_
    refine lv_iload_n hx hb dX6_addPlace_13 rfl (lv_at hl 0 rfl) ?_
    refine lv_dup2_11 hx hb dX6_addPlace_14 rfl rfl ?_
    refine va_lald hx hb hK hP 1 0 rfl rfl (vp_in_nI (n := i) (by omega) (by decide)) dX6_addPlace_15 ?_
    refine lv_topl (fun z_9 ez_9 => ?_)
    rw [nI_clamp (n := i) (by omega)] at ez_9
    refine lv_aload_n hx hb dX6_addPlace_16 rfl (lv_at hl 1 rfl) ?_
    refine va_get (D := (dC, dI)) (ci := 5) (v := .ref wa) (C := RX6) (T := TX6) (N := 1) hx hb hts iX6_addPlace_X6 hown hK hP 0 rfl rfl 0 (by decide) (hts (.fieldLink RX6 9 "LuckyTicket$SumTable" "ways" "[J") (List.mem_of_getElem? (i := 1) rfl)) (fun _ h9 => h9) rfl dX6_addPlace_17 ?_
    refine lv_iload_n hx hb dX6_addPlace_20 rfl (lv_at hl 0 rfl) ?_
    refine lv_iconst (v := 1) hx hb dX6_addPlace_21 (by decide) ?_
    refine lv_isub hx hb dX6_addPlace_22 ?_
    refine lv_topi (fun z_10 ez_10 => ?_)
    obtain rfl : z_10 = nI (i - 1) := ez_10.trans (pk_sub (a := i) (b := 1) (by omega))
    refine va_lald hx hb hK hP 1 0 rfl rfl (vp_in_nI (n := i - 1) (by omega) (by decide)) dX6_addPlace_23 ?_
    refine lv_topl (fun z_11 ez_11 => ?_)
    rw [nI_clamp (n := i - 1) (by omega)] at ez_11
    refine lv_ladd hx hb dX6_addPlace_24 ?_
    refine lv_topl (fun z_12 ez_12 => ?_)
    refine va_last hx hb hK hP hD hS 1 0 rfl rfl (vp_in_nI (n := i) (by omega) (by decide)) dX6_addPlace_25 (fun H locs hP hD hS => ?_)
    have hP : va_P (dC, dI) vwCl [(su, .inr (5, [.ref wa])), (wa, .inl (cJ, 181, .inr (.inl (vp_updL f1 ((nI i) : Int32).toNatClampNeg z_12))))] H := hP
    have hD : va_D A [(su, .inr (5, [.ref wa])), (wa, .inl (cJ, 181, .inr (.inl (vp_updL f1 ((nI i) : Int32).toNatClampNeg z_12))))] := hD
    rw [nI_clamp (n := i) (by omega)] at hP hD
    have hP : va_P (dC, dI) vwCl [(su, .inr (5, [.ref wa])), (wa, .inl (cJ, 181, .inr (.inl (vp_updL f1 i z_12))))] H := hP
    have hD : va_D A [(su, .inr (5, [.ref wa])), (wa, .inl (cJ, 181, .inr (.inl (vp_updL f1 i z_12))))] := hD
    obtain ⟨z_13, ez_13⟩ : ∃ y : Int32, y = nI i + 1 := ⟨_, rfl⟩
    refine lv_iinc (v := z_13) (lv' := [(2, .int z_13), (0, .ref su), (1, .int (nI bb))]) hx hb dX6_addPlace_26 hl (k := 0) rfl (by rw [ez_13]; rfl) (by decide) rfl (fun ls hl => ?_)
    obtain rfl : z_13 = nI (i + 1) := ez_13.trans (nI_add i 1)
    refine lv_goto (tgt := 2) hx hb dX6_addPlace_29 (by decide) ?_
    exact ih (i + 1, vp_updL f1 i z_12) _ _ _ ⟨(show 1 ≤ (i + 1) ∧ (i + 1) ≤ 181 from (by omega)), (show ∀ j, j < (i + 1) → (vp_updL f1 i z_12) j = pf f j from adA hi1 (by omega) ez_12 ez_9 ez_11 hA hB), (show ∀ j, (i + 1) ≤ j → j < 181 → (vp_updL f1 i z_12) j = f j from adB hB), hP, hD, hS, lv_sub hl [0, 1, 2] rfl⟩ (show 182 - (i + 1) < 182 - i by omega)
theorem dX6_fill_0 : decode cX6_fill 0 = .ok (.aload_n 0, 1) := by decide +kernel
theorem dX6_fill_1 : decode cX6_fill 1 = .ok (.getfield 9, 3) := by decide +kernel
theorem dX6_fill_4 : decode cX6_fill 4 = .ok (.lconst 0, 1) := by decide +kernel
theorem dX6_fill_5 : decode cX6_fill 5 = .ok (.invokestatic 13, 3) := by decide +kernel
theorem dX6_fill_8 : decode cX6_fill 8 = .ok (.aload_n 0, 1) := by decide +kernel
theorem dX6_fill_9 : decode cX6_fill 9 = .ok (.getfield 9, 3) := by decide +kernel
theorem dX6_fill_12 : decode cX6_fill 12 = .ok (.iconst 0, 1) := by decide +kernel
theorem dX6_fill_13 : decode cX6_fill 13 = .ok (.lconst 1, 1) := by decide +kernel
theorem dX6_fill_14 : decode cX6_fill 14 = .ok (.lastore, 1) := by decide +kernel
theorem dX6_fill_15 : decode cX6_fill 15 = .ok (.iconst 0, 1) := by decide +kernel
theorem dX6_fill_16 : decode cX6_fill 16 = .ok (.istore_n 3, 1) := by decide +kernel
theorem dX6_fill_17 : decode cX6_fill 17 = .ok (.iload_n 3, 1) := by decide +kernel
theorem dX6_fill_18 : decode cX6_fill 18 = .ok (.iload_n 1, 1) := by decide +kernel
theorem dX6_fill_19 : decode cX6_fill 19 = .ok (.if_icmp .ge 14, 3) := by decide +kernel
theorem dX6_fill_22 : decode cX6_fill 22 = .ok (.aload_n 0, 1) := by decide +kernel
theorem dX6_fill_23 : decode cX6_fill 23 = .ok (.iload_n 2, 1) := by decide +kernel
theorem dX6_fill_24 : decode cX6_fill 24 = .ok (.invokevirtual 19, 3) := by decide +kernel
theorem dX6_fill_27 : decode cX6_fill 27 = .ok (.iinc 3 1, 3) := by decide +kernel
theorem dX6_fill_30 : decode cX6_fill 30 = .ok (.goto (-13), 3) := by decide +kernel
theorem dX6_fill_33 : decode cX6_fill 33 = .ok (.return_, 1) := by decide +kernel
def uX6_fill : List Cond := .code yX6_fill cX6_fill 4 none :: ([.fieldLink RX6 9 "LuckyTicket$SumTable" "ways" "[J", .methodLink RX6 13 yJ7_fill_d0a16, .static yJ7_fill_d0a16, .initialized RJ7, .code yJ7_fill_d0a16 cJ7_fill_d0a16 5 none, .methodLink RX6 19 yX6_addPlace, .instanceMethod yX6_addPlace, .selects RX6 yX6_addPlace yX6_addPlace, .initialized RX6, .code yX6_addPlace cX6_addPlace 3 none] ++ wsX60)
theorem iX6_fill_X6 : ∀ w ∈ wsX60, w ∈ uX6_fill := fun _ h => List.mem_cons_of_mem _ (List.mem_append_right _ h)
set_option maxRecDepth 20000 in
theorem gX6_fill__J7_fill_181_S13 : GoodIn uX6_fill (va_wsS RX6 13 yJ7_fill_d0a16 uJ7_fill_181) := goodIn_p _ [5] rfl (by decide +kernel)
set_option maxRecDepth 20000 in
theorem gX6_fill__X6_addPlace_V19 : GoodIn uX6_fill (wsV RX6 19 RX6 yX6_addPlace uX6_addPlace) := goodIn_p _ [10] rfl (by decide +kernel)
set_option maxHeartbeats 4000000 in
set_option maxRecDepth 100000 in
theorem kX6_fill (l : Launch) (dC : Nat → ClassId) (dI : Nat → Nat → Nat) (su : Nat) (wa : Nat) (cJ : ClassId) (f : Nat → Int64) (nn : Nat) (bb : Nat) (sz : Nat) (hn : nn ≤ 12) (hb1 : 1 ≤ bb) (hb2 : bb ≤ 16) : Met l yX6_fill uX6_fill ({ frames := 1, cells := 0, slots := 0, locals := 24 }) (va_Pc [.ref su, .int (nI nn), .int (nI bb)] (hw (dC, dI) vwCl [(su, .inr (5, [.ref wa])), (wa, .inl (cJ, 181, .inr (.inl f)))] [(cJ, .long)] sz)) (va_Qv (fun (_ : Unit) => True) (fun (_ : Unit) t => ∃ (f2 : Nat → Int64), (∀ j, j < 181 → f2 j = TT 0 (bb - 1) nn j) ∧ va_P (dC, dI) vwCl [(su, .inr (5, [.ref wa])), (wa, .inl (cJ, 181, .inr (.inl f2)))] t.heap ∧ va_K (dC, dI) vwCl [(cJ, .long)] t ∧ va_D (va_A [(su, .inr (5, [.ref wa])), (wa, .inl (cJ, 181, .inr (.inl f)))] sz) [(su, .inr (5, [.ref wa])), (wa, .inl (cJ, 181, .inr (.inl f2)))]) (va_A [(su, .inr (5, [.ref wa])), (wa, .inl (cJ, 181, .inr (.inl f)))] sz)) 0 0 (va_A [(su, .inr (5, [.ref wa])), (wa, .inl (cJ, 181, .inr (.inl f)))] sz) := by
  refine Met.ofW (cc := cX6_fill) (maxL := 4) (ret := none) (by decide) rfl ?_
  intro p e s m args below meth c s₁ B hml hv
  obtain ⟨rfl, hsz, hP, hK, hD0, hN⟩ := hv
  have hx := B.exec
  have hb := B.bytes
  have hr := B.returns
  have hts := atoms_spec (ws := uX6_fill) B.pre
  have hown : s.vm.findClass RX6 = some m.cls := findClass_of_methodNamed B.named
  have hlocks := B.notSynchronized
  subst hsz
  have hD := hD0.self (sz := s.heap.size)
  generalize hAe : va_A [(su, .inr (5, [.ref wa])), (wa, .inl (cJ, 181, .inr (.inl f)))] s.heap.size = A at hD ⊢
  have hA : ∀ q : Nat, s.heap.size ≤ q → A q := fun q h => by rw [← hAe]; exact Or.inr h
  have hS : va_S A s.heap s.heap [] := va_S.rf
  have hP : va_P (dC, dI) vwCl [(su, .inr (5, [.ref wa])), (wa, .inl (cJ, 181, .inr (.inl f)))] s.heap := hP
  have hl := lv_entry ([.ref su, .int (nI nn), .int (nI bb)]) (n := 4) (Nat.le_of_ble_eq_true rfl)
  rw [lg_entry_eq]
  generalize (lg_sl ([.ref su, .int (nI nn), .int (nI bb)]) ++ List.replicate (4 - (lg_sl ([.ref su, .int (nI nn), .int (nI bb)])).length) Slot.unset).toArray = ls at hl ⊢
  have hl : lv_has ls 4 [(0, .ref su), (1, .int (nI nn)), (2, .int (nI bb))] := hl
  refine lv_aload_n hx hb dX6_fill_0 rfl (lv_at hl 0 rfl) ?_
  refine va_get (D := (dC, dI)) (ci := 5) (v := .ref wa) (C := RX6) (T := TX6) (N := 1) hx hb hts iX6_fill_X6 hown hK hP 0 rfl rfl 0 (by decide) (hts (.fieldLink RX6 9 "LuckyTicket$SumTable" "ways" "[J") (List.mem_of_getElem? (i := 1) rfl)) (fun _ h9 => h9) rfl dX6_fill_1 ?_
  refine lv_lconst (v := 0) hx hb dX6_fill_4 (by decide) ?_
  have hFc := va_free (wc := [(wa, .inl (cJ, 181, .inr (.inl f)))]) hD hS hA [1] rfl
  refine va_callv (va_runS (As := [.ref wa, .long 0]) (rest := []) ⟨hx, hb, hml, hown, hts⟩ (kJ7_fill_181 l dC dI wa cJ f 0 (s.heap.size)) (va_cwS 2 hts gX6_fill__J7_fill_181_S13 rfl rfl rfl (by decide +kernel) ⟨lel 1 1 rfl, lel 24 24 rfl⟩) ⟨hw_fb, (hw_use hP hD hK hN [1] rfl (by decide) rfl [0] rfl)⟩ rfl rfl hl.1 rfl (lv_room (Nat.le_of_ble_eq_true rfl)) dX6_fill_5 ⟨lel 0 0 rfl, lel 0 0 rfl⟩) hS (fun q _ h => hFc q h) hFc (fun u_2 t H1 locs ht hvm hwr_1 hB hz1 hk1 hS => ?_)
  obtain ⟨f2_3, hf_4, hP1, hK1, hD1⟩ := hB
  rw [ht] at hP1
  have hK1 := va_K.moved hvm.symm hK1
  obtain ⟨hP, hD⟩ := va_join (wr := [(su, .inr (5, [.ref wa]))]) (w1 := [(wa, .inl (cJ, 181, .inr (.inl f2_3)))]) hP hD [1] [0] rfl rfl (by decide) (by decide) hk1 hFc hP1 hD1
  have hK := (hK.sub (tys' := []) [] rfl).app hK1
  generalize H1 = H at hP hS ⊢
  have hP : va_P (dC, dI) vwCl [(su, .inr (5, [.ref wa])), (wa, .inl (cJ, 181, .inr (.inl f2_3)))] H := hP
  have hD : va_D A [(su, .inr (5, [.ref wa])), (wa, .inl (cJ, 181, .inr (.inl f2_3)))] := hD
  have hK : va_K (dC, dI) vwCl [(cJ, .long)] s := hK
  refine lv_aload_n hx hb dX6_fill_8 rfl (lv_at hl 0 rfl) ?_
  refine va_get (D := (dC, dI)) (ci := 5) (v := .ref wa) (C := RX6) (T := TX6) (N := 1) hx hb hts iX6_fill_X6 hown hK hP 0 rfl rfl 0 (by decide) (hts (.fieldLink RX6 9 "LuckyTicket$SumTable" "ways" "[J") (List.mem_of_getElem? (i := 1) rfl)) (fun _ h9 => h9) rfl dX6_fill_9 ?_
  refine lv_iconst (v := 0) hx hb dX6_fill_12 (by decide) ?_
  refine lv_lconst (v := 1) hx hb dX6_fill_13 (by decide) ?_
  refine va_last hx hb hK hP hD hS 1 0 rfl rfl (vp_in_lit (by decide)) dX6_fill_14 (fun H locs hP hD hS => ?_)
  have hP : va_P (dC, dI) vwCl [(su, .inr (5, [.ref wa])), (wa, .inl (cJ, 181, .inr (.inl (vp_updL f2_3 (0 : Int32).toNatClampNeg 1))))] H := hP
  have hD : va_D A [(su, .inr (5, [.ref wa])), (wa, .inl (cJ, 181, .inr (.inl (vp_updL f2_3 (0 : Int32).toNatClampNeg 1))))] := hD
  refine lv_iconst (v := 0) hx hb dX6_fill_15 (by decide) ?_
  refine lv_istore_n (lv' := [(3, .int 0), (0, .ref su), (1, .int (nI nn)), (2, .int (nI bb))]) hx hb dX6_fill_16 rfl hl (by decide) rfl (fun ls hl => ?_)
  refine loopW (σ := Nat × (Nat → Int64)) (fun v => 13 - v.1) (fun v H locs ls => (v.1 ≤ nn) ∧ (∀ j, j < 181 → v.2 j = TT 0 (bb - 1) v.1 j) ∧ va_P (dC, dI) vwCl [(su, .inr (5, [.ref wa])), (wa, .inl (cJ, 181, .inr (.inl v.2)))] H ∧ va_D A [(su, .inr (5, [.ref wa])), (wa, .inl (cJ, 181, .inr (.inl v.2)))] ∧ va_S A s.heap H locs ∧ lv_has ls 4 [(3, .int (nI v.1)), (0, .ref su), (1, .int (nI nn)), (2, .int (nI bb))]) (fun v H locs ls hI ih => ?_) (0, (vp_updL f2_3 (0 : Int32).toNatClampNeg 1)) ⟨(show 0 ≤ nn from Nat.zero_le _), (show ∀ j, j < 181 → ((vp_updL f2_3 (0 : Int32).toNatClampNeg 1)) j = TT 0 (bb - 1) 0 j from T0 hf_4), hP, hD, hS, hl⟩
  obtain ⟨i, f1⟩ := v
  obtain ⟨hi, hT1, hP, hD, hS, hl⟩ := hI
  have hi : i ≤ nn := hi
  have hT1 : ∀ j, j < 181 → f1 j = TT 0 (bb - 1) i j := hT1
  have hP : va_P (dC, dI) vwCl [(su, .inr (5, [.ref wa])), (wa, .inl (cJ, 181, .inr (.inl f1)))] H := hP
  have hD : va_D A [(su, .inr (5, [.ref wa])), (wa, .inl (cJ, 181, .inr (.inl f1)))] := hD
  have hl : lv_has ls 4 [(3, .int (nI i)), (0, .ref su), (1, .int (nI nn)), (2, .int (nI bb))] := hl
  refine lv_iload_n hx hb dX6_fill_17 rfl (lv_at hl 0 rfl) ?_
  refine lv_iload_n hx hb dX6_fill_18 rfl (lv_at hl 2 rfl) ?_
  refine lv_icmp_ge (tgt := 33) hx hb dX6_fill_19 (by decide) (fun c_5 => ?_) (fun c_5 => ?_)
  ·
    have nc_5 : nn ≤ i := (nI_leI (a := nn) (b := i) (by omega) (by omega)).mp c_5
    have hP9 := hP.sub (ws' := [(su, .inr (5, [.ref wa])), (wa, .inl (cJ, 181, .inr (.inl f1)))]) [0, 1] rfl
    have hD9 := hD.sub (ws' := [(su, .inr (5, [.ref wa])), (wa, .inl (cJ, 181, .inr (.inl f1)))]) [0, 1] (by decide) rfl
    have hK9 := hK.sub (tys' := [(cJ, .long)]) [0] rfl
    exact W.vret hx hb hr (fun t ht hW => ⟨⟨(), rfl, trivial, f1, (by rw [← show i = nn by omega]; exact hT1), by rw [ht]; exact hP9, va_K.moved hW.alike hK9, hD9⟩, hS.F ht⟩) hS.2.2 dX6_fill_33
  ·
    have nc_5 : ¬ nn ≤ i := fun q => c_5 ((nI_leI (a := nn) (b := i) (by omega) (by omega)).mpr q)
    refine lv_aload_n hx hb dX6_fill_22 rfl (lv_at hl 1 rfl) ?_
    refine lv_iload_n hx hb dX6_fill_23 rfl (lv_at hl 3 rfl) ?_
    have hFc := va_free (wc := [(su, .inr (5, [.ref wa])), (wa, .inl (cJ, 181, .inr (.inl f1)))]) hD hS hA [0, 1] rfl
    refine va_callv (va_runV (As := [.int (nI bb)]) (rest := []) ⟨hx, hb, hml, hown, hts⟩ (kX6_addPlace l dC dI su wa cJ f1 bb (H.size) (by omega) (by omega)) (cwV 1 hts gX6_fill__X6_addPlace_V19 rfl rfl rfl (by decide +kernel) ⟨lel 1 1 rfl, lel 22 24 rfl⟩) ⟨hw_fb, va_recv hK hP (ci := 5) (q0 := 0) rfl rfl, (hw_use hP hD hK hN [0, 1] rfl (by decide) rfl [0] rfl)⟩ rfl rfl hl.1 rfl (lv_room (Nat.le_of_ble_eq_true rfl)) dX6_fill_24 ⟨lel 0 0 rfl, lel 0 0 rfl⟩) hS (fun q _ h => hFc q h) hFc (fun u_7 t H1 locs ht hvm hwr_6 hB hz1 hk1 hS => ?_)
    obtain ⟨f2_8, hf_9, hP1, hK1, hD1⟩ := hB
    rw [ht] at hP1
    have hK1 := va_K.moved hvm.symm hK1
    obtain ⟨hP, hD⟩ := va_join (wr := []) (w1 := [(su, .inr (5, [.ref wa])), (wa, .inl (cJ, 181, .inr (.inl f2_8)))]) hP hD [0, 1] [] rfl rfl (by decide) (by decide) hk1 hFc hP1 hD1
    have hK := (hK.sub (tys' := []) [] rfl).app hK1
    generalize H1 = H at hP hS ⊢
    have hP : va_P (dC, dI) vwCl [(su, .inr (5, [.ref wa])), (wa, .inl (cJ, 181, .inr (.inl f2_8)))] H := hP
    have hD : va_D A [(su, .inr (5, [.ref wa])), (wa, .inl (cJ, 181, .inr (.inl f2_8)))] := hD
    have hK : va_K (dC, dI) vwCl [(cJ, .long)] s := hK
    obtain ⟨z_10, ez_10⟩ : ∃ y : Int32, y = nI i + 1 := ⟨_, rfl⟩
    refine lv_iinc (v := z_10) (lv' := [(3, .int z_10), (0, .ref su), (1, .int (nI nn)), (2, .int (nI bb))]) hx hb dX6_fill_27 hl (k := 0) rfl (by rw [ez_10]; rfl) (by decide) rfl (fun ls hl => ?_)
    obtain rfl : z_10 = nI (i + 1) := ez_10.trans (nI_add i 1)
    refine lv_goto (tgt := 17) hx hb dX6_fill_30 (by decide) ?_
    exact ih (i + 1, f2_8) _ _ _ ⟨(show (i + 1) ≤ nn from (by omega)), (show ∀ j, j < 181 → f2_8 j = TT 0 (bb - 1) (i + 1) j from (fun j hj => (hf_9 j hj).trans (sgl_cong (fun q hq => hT1 q (by omega)) _))), hP, hD, hS, lv_sub hl [0, 1, 2, 3] rfl⟩ (show 13 - (i + 1) < 13 - i by omega)
theorem dX6_waysTo_0 : decode cX6_waysTo 0 = .ok (.iload_n 1, 1) := by decide +kernel
theorem dX6_waysTo_1 : decode cX6_waysTo 1 = .ok (.ifCond .lt 19, 3) := by decide +kernel
theorem dX6_waysTo_4 : decode cX6_waysTo 4 = .ok (.iload_n 1, 1) := by decide +kernel
theorem dX6_waysTo_5 : decode cX6_waysTo 5 = .ok (.sipush 180, 3) := by decide +kernel
theorem dX6_waysTo_8 : decode cX6_waysTo 8 = .ok (.if_icmp .gt 12, 3) := by decide +kernel
theorem dX6_waysTo_11 : decode cX6_waysTo 11 = .ok (.aload_n 0, 1) := by decide +kernel
theorem dX6_waysTo_12 : decode cX6_waysTo 12 = .ok (.getfield 9, 3) := by decide +kernel
theorem dX6_waysTo_15 : decode cX6_waysTo 15 = .ok (.iload_n 1, 1) := by decide +kernel
theorem dX6_waysTo_16 : decode cX6_waysTo 16 = .ok (.laload, 1) := by decide +kernel
theorem dX6_waysTo_17 : decode cX6_waysTo 17 = .ok (.goto 4, 3) := by decide +kernel
theorem dX6_waysTo_20 : decode cX6_waysTo 20 = .ok (.lconst 0, 1) := by decide +kernel
theorem dX6_waysTo_21 : decode cX6_waysTo 21 = .ok (.lreturn, 1) := by decide +kernel
def uX6_waysTo : List Cond := .code yX6_waysTo cX6_waysTo 2 (some .long) :: ([.fieldLink RX6 9 "LuckyTicket$SumTable" "ways" "[J"] ++ wsX60)
theorem iX6_waysTo_X6 : ∀ w ∈ wsX60, w ∈ uX6_waysTo := fun _ h => List.mem_cons_of_mem _ (List.mem_append_right _ h)
set_option maxHeartbeats 4000000 in
set_option maxRecDepth 100000 in
theorem kX6_waysTo (l : Launch) (dC : Nat → ClassId) (dI : Nat → Nat → Nat) (su : Nat) (wa : Nat) (cJ : ClassId) (f : Nat → Int64) (a1 : Int32) : Met l yX6_waysTo uX6_waysTo ({ frames := 0, cells := 0, slots := 0, locals := 0 }) (va_Pc [.ref su, .int a1] (pw (dC, dI) vwCl [(su, .inr (5, [.ref wa])), (wa, .inl (cJ, 181, .inr (.inl f)))] [(cJ, .long)])) (vp_Sl (fun r => r = wt f a1)) 0 0 (fun _ => False) := by
  refine Met.ofW (cc := cX6_waysTo) (maxL := 2) (ret := (some .long)) (by decide) rfl ?_
  intro p e s m args below meth c s₁ B hml hv
  obtain ⟨rfl, hP, hK, hN⟩ := hv
  have hx := B.exec
  have hb := B.bytes
  have hr := B.returns
  have hts := atoms_spec (ws := uX6_waysTo) B.pre
  have hown : s.vm.findClass RX6 = some m.cls := findClass_of_methodNamed B.named
  have hlocks := B.notSynchronized
  have hl := lv_entry ([.ref su, .int a1]) (n := 2) (Nat.le_of_ble_eq_true rfl)
  rw [lg_entry_eq]
  generalize (lg_sl ([.ref su, .int a1]) ++ List.replicate (2 - (lg_sl ([.ref su, .int a1])).length) Slot.unset).toArray = ls at hl ⊢
  have hl : lv_has ls 2 [(0, .ref su), (1, .int a1)] := hl
  refine lv_iload_n hx hb dX6_waysTo_0 rfl (lv_at hl 1 rfl) ?_
  refine lv_if_lt (tgt := 20) hx hb dX6_waysTo_1 (by decide) (fun c_1 => ?_) (fun c_1 => ?_)
  ·
    refine lv_lconst (v := 0) hx hb dX6_waysTo_20 (by decide) ?_
    exact W.lret (v := 0) hx hb hr (fun t ht hW => ⟨0, rfl, wt_a c_1, ht⟩) t_nil dX6_waysTo_21
  ·
    refine lv_iload_n hx hb dX6_waysTo_4 rfl (lv_at hl 1 rfl) ?_
    refine lv_sipush (v := 180) hx hb dX6_waysTo_5 (by decide) ?_
    refine lv_icmp_gt (tgt := 20) hx hb dX6_waysTo_8 (by decide) (fun c_2 => ?_) (fun c_2 => ?_)
    ·
      refine lv_lconst (v := 0) hx hb dX6_waysTo_20 (by decide) ?_
      exact W.lret (v := 0) hx hb hr (fun t ht hW => ⟨0, rfl, wt_b c_2, ht⟩) t_nil dX6_waysTo_21
    ·
      refine lv_aload_n hx hb dX6_waysTo_11 rfl (lv_at hl 0 rfl) ?_
      refine va_get (D := (dC, dI)) (ci := 5) (v := .ref wa) (C := RX6) (T := TX6) (N := 1) hx hb hts iX6_waysTo_X6 hown hK hP 0 rfl rfl 0 (by decide) (hts (.fieldLink RX6 9 "LuckyTicket$SumTable" "ways" "[J") (List.mem_of_getElem? (i := 1) rfl)) (fun _ h9 => h9) rfl dX6_waysTo_12 ?_
      refine lv_iload_n hx hb dX6_waysTo_15 rfl (lv_at hl 1 rfl) ?_
      refine va_lald hx hb hK hP 1 0 rfl rfl (wt_in c_1 c_2) dX6_waysTo_16 ?_
      refine lv_topl (fun z_3 ez_3 => ?_)
      refine lv_goto (tgt := 21) hx hb dX6_waysTo_17 (by decide) ?_
      exact W.lret (v := z_3) hx hb hr (fun t ht hW => ⟨z_3, rfl, ez_3.trans (wt_c c_1 c_2), ht⟩) t_nil dX6_waysTo_21
theorem dX9_isLong_0 : decode cX9_isLong 0 = .ok (.iload_n 0, 1) := by decide +kernel
theorem dX9_isLong_1 : decode cX9_isLong 1 = .ok (.iconst 1, 1) := by decide +kernel
theorem dX9_isLong_2 : decode cX9_isLong 2 = .ok (.bipush 12, 2) := by decide +kernel
theorem dX9_isLong_4 : decode cX9_isLong 4 = .ok (.invokestatic 158, 3) := by decide +kernel
theorem dX9_isLong_7 : decode cX9_isLong 7 = .ok (.ifCond .eq 17, 3) := by decide +kernel
theorem dX9_isLong_10 : decode cX9_isLong 10 = .ok (.iload_n 1, 1) := by decide +kernel
theorem dX9_isLong_11 : decode cX9_isLong 11 = .ok (.iconst 2, 1) := by decide +kernel
theorem dX9_isLong_12 : decode cX9_isLong 12 = .ok (.bipush 16, 2) := by decide +kernel
theorem dX9_isLong_14 : decode cX9_isLong 14 = .ok (.invokestatic 158, 3) := by decide +kernel
theorem dX9_isLong_17 : decode cX9_isLong 17 = .ok (.ifCond .eq 7, 3) := by decide +kernel
theorem dX9_isLong_20 : decode cX9_isLong 20 = .ok (.iconst 1, 1) := by decide +kernel
theorem dX9_isLong_21 : decode cX9_isLong 21 = .ok (.goto 4, 3) := by decide +kernel
theorem dX9_isLong_24 : decode cX9_isLong 24 = .ok (.iconst 0, 1) := by decide +kernel
theorem dX9_isLong_25 : decode cX9_isLong 25 = .ok (.ireturn, 1) := by decide +kernel
def uX9_isLong : List Cond := .code yX9_isLong cX9_isLong 2 (some .boolean) :: ([.methodLink RX9 158 yX9_isWithin, .static yX9_isWithin, .initialized RX9, .code yX9_isWithin cX9_isWithin 3 (some .boolean)])
set_option maxRecDepth 20000 in
theorem gX9_isLong__X9_isWithin_S158 : GoodIn uX9_isLong (va_wsS RX9 158 yX9_isWithin uX9_isWithin) := goodIn_p _ [4] rfl (by decide +kernel)
set_option maxHeartbeats 4000000 in
set_option maxRecDepth 100000 in
theorem kX9_isLong (l : Launch) (dC : Nat → ClassId) (dI : Nat → Nat → Nat) (a1 : Int32) (a2 : Int32) : Met l yX9_isLong uX9_isLong ({ frames := 1, cells := 0, slots := 0, locals := 22 }) (va_Pc [.int a1, .int a2] (fun _ => True)) (vp_Si (fun r => r = il a1 a2)) 0 0 (fun _ => False) := by
  refine Met.ofW (cc := cX9_isLong) (maxL := 2) (ret := (some .boolean)) (by decide) rfl ?_
  intro p e s m args below meth c s₁ B hml hv
  obtain ⟨rfl, _⟩ := hv
  have hx := B.exec
  have hb := B.bytes
  have hr := B.returns
  have hts := atoms_spec (ws := uX9_isLong) B.pre
  have hown : s.vm.findClass RX9 = some m.cls := findClass_of_methodNamed B.named
  have hlocks := B.notSynchronized
  have hl := lv_entry ([.int a1, .int a2]) (n := 2) (Nat.le_of_ble_eq_true rfl)
  rw [lg_entry_eq]
  generalize (lg_sl ([.int a1, .int a2]) ++ List.replicate (2 - (lg_sl ([.int a1, .int a2])).length) Slot.unset).toArray = ls at hl ⊢
  have hl : lv_has ls 2 [(0, .int a1), (1, .int a2)] := hl
  refine lv_iload_n hx hb dX9_isLong_0 rfl (lv_at hl 0 rfl) ?_
  refine lv_iconst (v := 1) hx hb dX9_isLong_1 (by decide) ?_
  refine lv_bipush (v := 12) hx hb dX9_isLong_2 (by decide) ?_
  refine vp_callSi (W.runS (As := [.int a1, .int 1, .int 12]) (rest := []) ⟨hx, hb, hml, hown, hts⟩ (kX9_isWithin l dC dI a1 1 12) (va_cwS 3 hts gX9_isLong__X9_isWithin_S158 rfl rfl rfl (by decide +kernel) ⟨lel 1 1 rfl, lel 22 22 rfl⟩) ⟨pn_fb, pn_use⟩ rfl rfl hl.1 rfl (lv_room (Nat.le_of_ble_eq_true rfl)) dX9_isLong_4 ⟨lel 0 0 rfl, lel 0 0 rfl⟩) (fun r_1 hr_1 => ?_)
  refine lv_if_eq (tgt := 24) hx hb dX9_isLong_7 (by decide) (fun c_2 => ?_) (fun c_2 => ?_)
  ·
    refine lv_iconst (v := 0) hx hb dX9_isLong_24 (by decide) ?_
    exact W.zret (v := 0) hx hb hr rfl (fun t ht hW => ⟨0, rfl, il_a (hr_1.symm.trans c_2), ht⟩) t_nil dX9_isLong_25
  ·
    refine lv_iload_n hx hb dX9_isLong_10 rfl (lv_at hl 1 rfl) ?_
    refine lv_iconst (v := 2) hx hb dX9_isLong_11 (by decide) ?_
    refine lv_bipush (v := 16) hx hb dX9_isLong_12 (by decide) ?_
    refine vp_callSi (W.runS (As := [.int a2, .int 2, .int 16]) (rest := []) ⟨hx, hb, hml, hown, hts⟩ (kX9_isWithin l dC dI a2 2 16) (va_cwS 3 hts gX9_isLong__X9_isWithin_S158 rfl rfl rfl (by decide +kernel) ⟨lel 1 1 rfl, lel 22 22 rfl⟩) ⟨pn_fb, pn_use⟩ rfl rfl hl.1 rfl (lv_room (Nat.le_of_ble_eq_true rfl)) dX9_isLong_14 ⟨lel 0 0 rfl, lel 0 0 rfl⟩) (fun r_3 hr_3 => ?_)
    refine lv_if_eq (tgt := 24) hx hb dX9_isLong_17 (by decide) (fun c_4 => ?_) (fun c_4 => ?_)
    ·
      refine lv_iconst (v := 0) hx hb dX9_isLong_24 (by decide) ?_
      exact W.zret (v := 0) hx hb hr rfl (fun t ht hW => ⟨0, rfl, il_b (hr_3.symm.trans c_4), ht⟩) t_nil dX9_isLong_25
    ·
      refine lv_iconst (v := 1) hx hb dX9_isLong_20 (by decide) ?_
      refine lv_goto (tgt := 25) hx hb dX9_isLong_21 (by decide) ?_
      exact W.zret (v := 1) hx hb hr rfl (fun t ht hW => ⟨1, rfl, il_1 (fun e => c_2 (hr_1.trans e)) (fun e => c_4 (hr_3.trans e)), ht⟩) t_nil dX9_isLong_25
theorem dX10_isLong_0 : decode cX10_isLong 0 = .ok (.iload_n 0, 1) := by decide +kernel
theorem dX10_isLong_1 : decode cX10_isLong 1 = .ok (.i2l, 1) := by decide +kernel
theorem dX10_isLong_2 : decode cX10_isLong 2 = .ok (.lconst 1, 1) := by decide +kernel
theorem dX10_isLong_3 : decode cX10_isLong 3 = .ok (.ldc2_w 453, 3) := by decide +kernel
theorem dX10_isLong_6 : decode cX10_isLong 6 = .ok (.invokestatic 82, 3) := by decide +kernel
theorem dX10_isLong_9 : decode cX10_isLong 9 = .ok (.ifCond .eq 21, 3) := by decide +kernel
theorem dX10_isLong_12 : decode cX10_isLong 12 = .ok (.iload_n 1, 1) := by decide +kernel
theorem dX10_isLong_13 : decode cX10_isLong 13 = .ok (.i2l, 1) := by decide +kernel
theorem dX10_isLong_14 : decode cX10_isLong 14 = .ok (.ldc2_w 80, 3) := by decide +kernel
theorem dX10_isLong_17 : decode cX10_isLong 17 = .ok (.ldc2_w 455, 3) := by decide +kernel
theorem dX10_isLong_20 : decode cX10_isLong 20 = .ok (.invokestatic 82, 3) := by decide +kernel
theorem dX10_isLong_23 : decode cX10_isLong 23 = .ok (.ifCond .eq 7, 3) := by decide +kernel
theorem dX10_isLong_26 : decode cX10_isLong 26 = .ok (.iconst 1, 1) := by decide +kernel
theorem dX10_isLong_27 : decode cX10_isLong 27 = .ok (.goto 4, 3) := by decide +kernel
theorem dX10_isLong_30 : decode cX10_isLong 30 = .ok (.iconst 0, 1) := by decide +kernel
theorem dX10_isLong_31 : decode cX10_isLong 31 = .ok (.ireturn, 1) := by decide +kernel
def uX10_isLong : List Cond := .code yX10_isLong cX10_isLong 2 (some .boolean) :: ([.constantLong RX10 453 (12), .methodLink RX10 82 yX10_in, .static yX10_in, .initialized RX10, .code yX10_in cX10_in 6 (some .boolean), .constantLong RX10 80 (2), .constantLong RX10 455 (16)])
set_option maxRecDepth 20000 in
theorem gX10_isLong__X10_in_S82 : GoodIn uX10_isLong (va_wsS RX10 82 yX10_in uX10_in) := goodIn_p _ [5] rfl (by decide +kernel)
set_option maxHeartbeats 4000000 in
set_option maxRecDepth 100000 in
theorem kX10_isLong (l : Launch) (dC : Nat → ClassId) (dI : Nat → Nat → Nat) (a1 : Int32) (a2 : Int32) : Met l yX10_isLong uX10_isLong ({ frames := 1, cells := 0, slots := 0, locals := 25 }) (va_Pc [.int a1, .int a2] (fun _ => True)) (vp_Si (fun r => r = il a1 a2)) 0 0 (fun _ => False) := by
  refine Met.ofW (cc := cX10_isLong) (maxL := 2) (ret := (some .boolean)) (by decide) rfl ?_
  intro p e s m args below meth c s₁ B hml hv
  obtain ⟨rfl, _⟩ := hv
  have hx := B.exec
  have hb := B.bytes
  have hr := B.returns
  have hts := atoms_spec (ws := uX10_isLong) B.pre
  have hown : s.vm.findClass RX10 = some m.cls := findClass_of_methodNamed B.named
  have hlocks := B.notSynchronized
  have hl := lv_entry ([.int a1, .int a2]) (n := 2) (Nat.le_of_ble_eq_true rfl)
  rw [lg_entry_eq]
  generalize (lg_sl ([.int a1, .int a2]) ++ List.replicate (2 - (lg_sl ([.int a1, .int a2])).length) Slot.unset).toArray = ls at hl ⊢
  have hl : lv_has ls 2 [(0, .int a1), (1, .int a2)] := hl
  refine lv_iload_n hx hb dX10_isLong_0 rfl (lv_at hl 0 rfl) ?_
  refine lv_i2l (v := a1.toInt64) hx hb dX10_isLong_1 rfl ?_
  refine lv_lconst (v := 1) hx hb dX10_isLong_2 (by decide) ?_
  refine lv_ldc2 (v := 12) hx hb hown (hts (.constantLong RX10 453 (12)) (List.mem_of_getElem? (i := 1) rfl)) dX10_isLong_3 ?_
  refine vp_callSi (W.runS (As := [.long a1.toInt64, .long 1, .long 12]) (rest := []) ⟨hx, hb, hml, hown, hts⟩ (kX10_in l dC dI a1.toInt64 1 12) (va_cwS 3 hts gX10_isLong__X10_in_S82 rfl rfl rfl (by decide +kernel) ⟨lel 1 1 rfl, lel 25 25 rfl⟩) ⟨pn_fb, pn_use⟩ rfl rfl hl.1 rfl (lv_room (Nat.le_of_ble_eq_true rfl)) dX10_isLong_6 ⟨lel 0 0 rfl, lel 0 0 rfl⟩) (fun r_1 hr_1 => ?_)
  refine lv_if_eq (tgt := 30) hx hb dX10_isLong_9 (by decide) (fun c_2 => ?_) (fun c_2 => ?_)
  ·
    refine lv_iconst (v := 0) hx hb dX10_isLong_30 (by decide) ?_
    exact W.zret (v := 0) hx hb hr rfl (fun t ht hW => ⟨0, rfl, il_a ((inr_wi a1 1 12).symm.trans (hr_1.symm.trans c_2)), ht⟩) t_nil dX10_isLong_31
  ·
    refine lv_iload_n hx hb dX10_isLong_12 rfl (lv_at hl 1 rfl) ?_
    refine lv_i2l (v := a2.toInt64) hx hb dX10_isLong_13 rfl ?_
    refine lv_ldc2 (v := 2) hx hb hown (hts (.constantLong RX10 80 (2)) (List.mem_of_getElem? (i := 6) rfl)) dX10_isLong_14 ?_
    refine lv_ldc2 (v := 16) hx hb hown (hts (.constantLong RX10 455 (16)) (List.mem_of_getElem? (i := 7) rfl)) dX10_isLong_17 ?_
    refine vp_callSi (W.runS (As := [.long a2.toInt64, .long 2, .long 16]) (rest := []) ⟨hx, hb, hml, hown, hts⟩ (kX10_in l dC dI a2.toInt64 2 16) (va_cwS 3 hts gX10_isLong__X10_in_S82 rfl rfl rfl (by decide +kernel) ⟨lel 1 1 rfl, lel 25 25 rfl⟩) ⟨pn_fb, pn_use⟩ rfl rfl hl.1 rfl (lv_room (Nat.le_of_ble_eq_true rfl)) dX10_isLong_20 ⟨lel 0 0 rfl, lel 0 0 rfl⟩) (fun r_3 hr_3 => ?_)
    refine lv_if_eq (tgt := 30) hx hb dX10_isLong_23 (by decide) (fun c_4 => ?_) (fun c_4 => ?_)
    ·
      refine lv_iconst (v := 0) hx hb dX10_isLong_30 (by decide) ?_
      exact W.zret (v := 0) hx hb hr rfl (fun t ht hW => ⟨0, rfl, il_b ((inr_wi a2 2 16).symm.trans (hr_3.symm.trans c_4)), ht⟩) t_nil dX10_isLong_31
    ·
      refine lv_iconst (v := 1) hx hb dX10_isLong_26 (by decide) ?_
      refine lv_goto (tgt := 31) hx hb dX10_isLong_27 (by decide) ?_
      exact W.zret (v := 1) hx hb hr rfl (fun t ht hW => ⟨1, rfl, il_1 (fun e => c_2 (hr_1.trans ((inr_wi a1 1 12).trans e))) (fun e => c_4 (hr_3.trans ((inr_wi a2 2 16).trans e))), ht⟩) t_nil dX10_isLong_31
