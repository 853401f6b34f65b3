theorem fa_nlt {x : Int32} (h : ¬ x < 0) : (0 : Int32) ≤ x := by
  rw [Int32.le_iff_toInt_le]; rw [Int32.lt_iff_toInt_lt] at h; omega
theorem fa_nle {x y : Int32} (h : ¬ x ≤ y) : y < x := by
  rw [Int32.lt_iff_toInt_lt]; rw [Int32.le_iff_toInt_le] at h; omega
theorem fa_nlt2 {x y : Int32} (h : ¬ x < y) : y ≤ x := by
  rw [Int32.le_iff_toInt_le]; rw [Int32.lt_iff_toInt_lt] at h; omega
theorem fa_not {x y : Int32} (h : x < y) : ¬ y ≤ x := by
  rw [Int32.le_iff_toInt_le]; rw [Int32.lt_iff_toInt_lt] at h; omega
def wi (n lo hi : Int32) : Int32 := if lo ≤ n ∧ n ≤ hi then 1 else 0
theorem wi_n (n lo hi : Int32) : narrow .boolean (.int (wi n lo hi)) = .int (wi n lo hi) := by
  unfold wi; split <;> rfl
theorem wi_1 {n lo hi : Int32} (h1 : ¬ n < lo) (h2 : ¬ hi < n) : (1 : Int32) = wi n lo hi := (if_pos ⟨fa_nlt2 h1, fa_nlt2 h2⟩).symm
theorem wi_a {n lo hi : Int32} (h1 : n < lo) : (0 : Int32) = wi n lo hi := (if_neg (fun h => fa_not h1 h.1)).symm
theorem wi_b {n lo hi : Int32} (h2 : hi < n) : (0 : Int32) = wi n lo hi := (if_neg (fun h => fa_not h2 h.2)).symm
theorem wi_yes {n lo hi : Int32} (h : ¬ wi n lo hi = 0) : lo ≤ n ∧ n ≤ hi := by
  by_cases q : lo ≤ n ∧ n ≤ hi
  · exact q
  · exact absurd (if_neg q) h
theorem wi_no {n lo hi : Int32} (h : wi n lo hi = 0) : ¬ (lo ≤ n ∧ n ≤ hi) := fun q => by
  have e : wi n lo hi = 1 := if_pos q
  rw [e] at h; exact absurd h (by decide)
theorem wi_nat {n : Int32} {hi : Int32} {k : Nat} (hk : hi.toInt = k) (h : ¬ wi n 0 hi = 0) : ∃ j : Nat, j ≤ k ∧ n = nI j := by
  have q := wi_yes h
  exact nI_of2 hk (fun c => fa_not c q.1) q.2
theorem wi_4 {a : Int32} (h : ¬ wi a 0 3 = 0) : a = 0 ∨ a = 1 ∨ a = 2 ∨ a = 3 := by
  obtain ⟨j, hj, rfl⟩ := wi_nat (k := 3) (by decide) h
  rcases (show j = 0 ∨ j = 1 ∨ j = 2 ∨ j = 3 by omega) with rfl | rfl | rfl | rfl
  · exact Or.inl rfl
  · exact Or.inr (Or.inl rfl)
  · exact Or.inr (Or.inr (Or.inl rfl))
  · exact Or.inr (Or.inr (Or.inr rfl))
def inr (v lo hi : Int64) : Int32 := if lo ≤ v ∧ v ≤ hi then 1 else 0
theorem inr_n (v lo hi : Int64) : narrow .boolean (.int (inr v lo hi)) = .int (inr v lo hi) := by
  unfold inr; split <;> rfl
theorem fb_nlt {x y : Int64} (h : ¬ x < y) : y ≤ x := by
  rw [Int64.le_iff_toInt_le]; rw [Int64.lt_iff_toInt_lt] at h; omega
theorem fb_not {x y : Int64} (h : x < y) : ¬ y ≤ x := by
  rw [Int64.le_iff_toInt_le]; rw [Int64.lt_iff_toInt_lt] at h; omega
theorem inr_1 {v lo hi : Int64} (h1 : ¬ lg_cmp v lo < 0) (h2 : ¬ 0 < lg_cmp v hi) : (1 : Int32) = inr v lo hi := (if_pos ⟨fb_nlt (fun c => h1 ((lg_cmp_lt v lo).mpr c)), fb_nlt (fun c => h2 ((lg_cmp_gt v hi).mpr c))⟩).symm
theorem inr_a {v lo hi : Int64} (h1 : lg_cmp v lo < 0) : (0 : Int32) = inr v lo hi := (if_neg (fun h => fb_not ((lg_cmp_lt v lo).mp h1) h.1)).symm
theorem inr_b {v lo hi : Int64} (h2 : 0 < lg_cmp v hi) : (0 : Int32) = inr v lo hi := (if_neg (fun h => fb_not ((lg_cmp_gt v hi).mp h2) h.2)).symm
theorem inr_no (v : Int64) : inr v 0 (-1) = 0 := if_neg (in_no v)
theorem le_wide (a b : Int32) : a.toInt64 ≤ b.toInt64 ↔ a ≤ b := by
  rw [Int64.le_iff_toInt_le, Int32.le_iff_toInt_le, Int32.toInt_toInt64, Int32.toInt_toInt64]
theorem inr_wi (a lo hi : Int32) : inr a.toInt64 lo.toInt64 hi.toInt64 = wi a lo hi := by
  unfold inr wi
  by_cases h : lo ≤ a ∧ a ≤ hi
  · rw [if_pos h, if_pos ⟨(le_wide _ _).mpr h.1, (le_wide _ _).mpr h.2⟩]
  · rw [if_neg h, if_neg (fun q => h ⟨(le_wide _ _).mp q.1, (le_wide _ _).mp q.2⟩)]
def MON : List Nat := [31, 28, 31, 30, 31, 30, 31, 31, 30, 31, 30, 31]
def mo (m : Nat) : Nat := MON.getD m 0
theorem mo_le : ∀ m, m < 12 → mo m ≤ 31 := by decide +kernel
def dtL : List Nat → Nat → Nat → Nat
  | [], x, m => x * 100 + m
  | y :: ys, x, m => if x ≤ y then x * 100 + m else dtL ys (x - y) (m + 1)
def dt (d : Nat) : Nat := dtL MON d 1
theorem mo_drop : ∀ m, m < 12 → MON.drop m = mo m :: MON.drop (m + 1) := by decide +kernel
theorem mo_sum : ∀ m, m < 12 → (MON.drop m).sum = mo m + (MON.drop (m + 1)).sum := by decide +kernel
theorem mo_last : ∀ m, m < 12 → 0 < (MON.drop (m + 1)).sum → m + 1 < 12 := by decide +kernel
theorem mo_12 : (MON.drop 11).sum = mo 11 := by decide +kernel
theorem dt_step {m x : Nat} (hm : m < 12) (hx : ¬ x ≤ mo m) : dtL (MON.drop m) x (m + 1) = dtL (MON.drop (m + 1)) (x - mo m) (m + 1 + 1) := by
  rw [mo_drop m hm]; simp only [dtL]; rw [if_neg hx]
theorem dt_end {m x : Nat} (hm : m < 12) (hx : x ≤ mo m) : dtL (MON.drop m) x (m + 1) = x * 100 + (m + 1) := by
  rw [mo_drop m hm]; simp only [dtL]; rw [if_pos hx]
theorem dt_lt : ∀ d, d < 366 → dt d < 10000 := by decide +kernel
def ld (k : Nat) : Bool := k / 1000 + k / 100 % 10 == k / 10 % 10 + k % 10
def lb (k : Nat) : Int32 := if ld k = true then 1 else 0
theorem lb_t {k : Nat} (h : k / 1000 + k / 100 % 10 = k / 10 % 10 + k % 10) : (1 : Int32) = lb k := (if_pos (by simp [ld, h])).symm
theorem lb_f {k : Nat} (h : ¬ (k / 1000 + k / 100 % 10 = k / 10 % 10 + k % 10)) : (0 : Int32) = lb k := (if_neg (by simp [ld, h])).symm
theorem lb_0 {k : Nat} (h : lb k = 0) : ld k = false := by
  cases e : ld k
  · rfl
  · unfold lb at h; rw [if_pos e] at h; exact absurd h (by decide)
theorem lb_1 {k : Nat} (h : ¬ lb k = 0) : ld k = true := by
  cases e : ld k
  · exact absurd (show lb k = 0 by unfold lb; rw [e]; rfl) h
  · rfl
theorem lb_n (k : Nat) : narrow .boolean (.int (lb k)) = .int (lb k) := by
  unfold lb; split <;> rfl
theorem ld_x (k : Nat) : (k / 100 / 10 + k / 100 % 10 = k % 100 / 10 + k % 100 % 10) ↔ (k / 1000 + k / 100 % 10 = k / 10 % 10 + k % 10) := by
  rw [Nat.div_div_eq_div_mul, show k % 100 / 10 = k / 10 % 10 from Nat.mod_mul_right_div_self k 10 10, Nat.mod_mod_of_dvd k (show 10 ∣ 100 by decide)]
def moV : Nat → Value := fun j => .int (nI (mo j))
def yw (U : State) : Prop := ∃ t, va_Z "LuckyTicket$Year" "MONTHS" "[I" (.ref t) (fun _ => False) U U.heap ∧ va_T .int t 12 moV (fun _ => False) U U.heap
theorem yw_fb {av : List Value} : FrameBlind (va_Pc av yw) := fun a U g mk q => by
  obtain ⟨q0, t, qZ, qT⟩ := q
  exact ⟨q0, t, va_Z.moved (u := U) (U := U.calling g mk a) (Vm.Alike.refl U.vm) qZ, va_T.moved (u := U) (U := U.calling g mk a) (Vm.Alike.refl U.vm) qT⟩
theorem yw_use {av : List Value} {s : State} (h : yw s) : ∀ U : State, U.heap = s.heap → s.WarmedH U.vm → va_Pc av yw av.toArray U := fun U hU hW => by
  obtain ⟨t, qZ, qT⟩ := h
  exact ⟨rfl, t, by rw [hU]; exact va_Z.moved hW.alike qZ, by rw [hU]; exact va_T.moved hW.alike qT⟩
theorem wi_rg {a : Int32} {lo hi : Int32} {k : Nat} (hk : hi.toInt = k) (hl : lo.toInt = 1) (h : ¬ wi a lo hi = 0) : ∃ d : Nat, 1 ≤ d ∧ d ≤ k ∧ a = nI d := by
  have q := wi_yes h
  have q1 := Int32.le_iff_toInt_le.mp q.1
  have z : (0 : Int32).toInt = 0 := by decide
  have hn : ¬ a < 0 := fun c => by have := Int32.lt_iff_toInt_lt.mp c; omega
  obtain ⟨j, hj, rfl⟩ := nI_of2 hk hn q.2
  refine ⟨j, ?_, hj, rfl⟩
  rcases Nat.eq_zero_or_pos j with e | e
  · subst e; rw [hl, nI_0] at q1; exact absurd q1 (by decide)
  · exact e
def dte (a : Int32) : Int32 := if wi a 1 365 = 0 then -2 else nI (dt a.toNatClampNeg)
theorem dte_0 {a : Int32} (h : wi a 1 365 = 0) : (-2 : Int32) = dte a := (if_pos h).symm
theorem dte_1 {d : Nat} (h : ¬ wi (nI d) 1 365 = 0) (h2 : d ≤ 365) : nI (dt d) = dte (nI d) := by
  unfold dte; rw [if_neg h, nI_clamp (by omega)]
def nxt (d n : Nat) : Nat := (d - 1 + n) % 365 + 1
def dpo (d : Nat) (r : Int32) : Prop := ∃ b, r = nI b ∧ 1 ≤ b ∧ ld (dt (nxt d b)) = true ∧ ∀ n, 1 ≤ n → n < b → ld (dt (nxt d n)) = false
def dq (a : Int32) (r : Int32) : Prop := if wi a 1 365 = 0 then r = -2 else dpo a.toNatClampNeg r
theorem dq_0 {a : Int32} (h : wi a 1 365 = 0) : dq a (-2) := by unfold dq; rw [if_pos h]
theorem dq_1 {d : Nat} {r : Int32} (h : ¬ wi (nI d) 1 365 = 0) (h2 : d ≤ 365) (q : dpo d r) : dq (nI d) r := by
  unfold dq; rw [if_neg h, nI_clamp (by omega)]; exact q
theorem dq_one {a r1 r2 : Int32} (h1 : dq a r1) (h2 : dq a r2) : r1 = r2 := by
  unfold dq at h1 h2
  by_cases c : wi a 1 365 = 0
  · rw [if_pos c] at h1 h2; rw [h1, h2]
  · rw [if_neg c] at h1 h2
    obtain ⟨b, rfl, p1, p2, p3⟩ := h1
    obtain ⟨b', rfl, q1, q2, q3⟩ := h2
    rcases Nat.lt_trichotomy b b' with e | e | e
    · exact absurd p2 (by rw [q3 b p1 e]; decide)
    · rw [e]
    · exact absurd q2 (by rw [p3 b' q1 e]; decide)
theorem day_no {d b : Nat} (h1 : 1 ≤ d) (h2 : d ≤ 365) (hb : 366 ≤ b) (h : ∀ n, 1 ≤ n → n < b → ld (dt (nxt d n)) = false) : False := by
  have q := h (366 - d) (by omega) (by omega)
  have e : nxt d (366 - d) = 1 := by unfold nxt; omega
  rw [e] at q
  exact absurd q (by decide +kernel)
theorem nx_a {d b : Nat} (hd : 1 ≤ d) (hb : 1 ≤ b) (h : nxt d (b - 1) = 365) : (1 : Int32) = nI (nxt d b) := by
  have e : nxt d b = 1 := by unfold nxt at *; omega
  rw [e]; rfl
theorem nx_b {d b : Nat} (hd : 1 ≤ d) (hb : 1 ≤ b) (h : ¬ nxt d (b - 1) = 365) : nI (nxt d (b - 1) + 1) = nI (nxt d b) := by
  have e : nxt d b = nxt d (b - 1) + 1 := by unfold nxt at *; omega
  rw [e]
theorem nx_le (d n : Nat) : 1 ≤ nxt d n ∧ nxt d n ≤ 365 := by unfold nxt; omega
theorem nx_0 {d : Nat} (h1 : 1 ≤ d) (h2 : d ≤ 365) : nxt d 0 = d := by unfold nxt; omega
theorem no_s {d b : Nat} (h : ∀ n, 1 ≤ n → n < b → ld (dt (nxt d n)) = false) (hb : ld (dt (nxt d b)) = false) : ∀ n, 1 ≤ n → n < b + 1 → ld (dt (nxt d n)) = false := fun n h1 h2 => by
  rcases Nat.lt_or_ge n b with q | q
  · exact h n h1 q
  · have e : n = b := by omega
    rw [e]; exact hb
def mcn (m : Nat) : Nat → Nat
  | 0 => 0
  | k + 1 => mcn m k + (if ld (100 * (k + 1) + m) = true then 1 else 0)
theorem mc_0 {m k : Nat} (h : ld (100 * (k + 1) + m) = false) : mcn m (k + 1) = mcn m k := by simp [mcn, h]
theorem mc_1 {m k : Nat} (h : ld (100 * (k + 1) + m) = true) : mcn m (k + 1) = mcn m k + 1 := by simp [mcn, h]
def mth (a : Int32) : Int32 := if wi a 1 12 = 0 then -2 else nI (mcn a.toNatClampNeg (mo (a.toNatClampNeg - 1)))
theorem mth_0 {a : Int32} (h : wi a 1 12 = 0) : (-2 : Int32) = mth a := (if_pos h).symm
theorem mth_1 {m k : Nat} (h : ¬ wi (nI (m + 1)) 1 12 = 0) (hm : m < 12) (hk : k = mo m) : nI (mcn (m + 1) k) = mth (nI (m + 1)) := by
  unfold mth; rw [if_neg h, nI_clamp (by omega), hk]; rfl
theorem wi_mo {a : Int32} (h : ¬ wi a 1 12 = 0) : ∃ m : Nat, m < 12 ∧ a = nI (m + 1) := by
  obtain ⟨d, h1, h2, rfl⟩ := wi_rg (k := 12) (by decide) (by decide) h
  exact ⟨d - 1, by omega, by rw [show d - 1 + 1 = d by omega]⟩
theorem mo_tot : ∀ m, m < 12 → (MON.drop m).sum ≤ 365 := by decide +kernel
theorem ld_c {k m : Nat} {v : Bool} (h : ld ((k + 1) * 100 + (m + 1)) = v) : ld (100 * (k + 1) + (m + 1)) = v := by rw [Nat.mul_comm]; exact h
def quX9_isWithin : List Cond := List.cons (.code yX9_isWithin cX9_isWithin 3 (some .boolean)) ([] : List Cond)
set_option maxHeartbeats 4000000 in
set_option maxRecDepth 100000 in
theorem qkX9_isWithin (l : Launch) (dC : Nat → ClassId) (dI : Nat → Nat → Nat) (a1 : Int32) (a2 : Int32) (a3 : Int32) : Met l yX9_isWithin quX9_isWithin ({ frames := 0, cells := 0, slots := 0, locals := 0 }) (va_Pc [.int a1, .int a2, .int a3] (fun _ => True)) (vp_Si (fun r => r = wi a1 a2 a3)) 0 0 (fun _ => False) := by
  refine Met.ofW (cc := cX9_isWithin) (maxL := 3) (ret := (some .boolean)) (by decide) rfl ?_
  intro p e s m args below meth c s₁ B hml hv
  obtain ⟨rfl, _⟩ := hv
  have hx := B.exec
  have hb := B.bytes
  have hr := B.returns
  have hts := atoms_spec (ws := quX9_isWithin) B.pre
  have hown : s.vm.findClass RX9 = some m.cls := findClass_of_methodNamed B.named
  have hlocks := B.notSynchronized
  have hl := lv_entry ([.int a1, .int a2, .int a3]) (n := 3) (Nat.le_of_ble_eq_true rfl)
  rw [lg_entry_eq]
  generalize (lg_sl ([.int a1, .int a2, .int a3]) ++ List.replicate (3 - (lg_sl ([.int a1, .int a2, .int a3])).length) Slot.unset).toArray = ls at hl ⊢
  have hl : lv_has ls 3 [(0, .int a1), (1, .int a2), (2, .int a3)] := hl
  refine lv_iload_n hx hb dX9_isWithin_0 rfl (lv_at hl 0 rfl) ?_
  refine lv_iload_n hx hb dX9_isWithin_1 rfl (lv_at hl 1 rfl) ?_
  refine lv_icmp_lt (tgt := 14) hx hb dX9_isWithin_2 (by decide) (fun c_1 => ?_) (fun c_1 => ?_)
  ·
    refine lv_iconst (v := 0) hx hb dX9_isWithin_14 (by decide) ?_
    exact W.zret (v := 0) hx hb hr rfl (fun t ht hW => ⟨0, rfl, wi_a c_1, ht⟩) t_nil dX9_isWithin_15
  ·
    refine lv_iload_n hx hb dX9_isWithin_5 rfl (lv_at hl 0 rfl) ?_
    refine lv_iload_n hx hb dX9_isWithin_6 rfl (lv_at hl 2 rfl) ?_
    refine lv_icmp_gt (tgt := 14) hx hb dX9_isWithin_7 (by decide) (fun c_2 => ?_) (fun c_2 => ?_)
    ·
      refine lv_iconst (v := 0) hx hb dX9_isWithin_14 (by decide) ?_
      exact W.zret (v := 0) hx hb hr rfl (fun t ht hW => ⟨0, rfl, wi_b c_2, ht⟩) t_nil dX9_isWithin_15
    ·
      refine lv_iconst (v := 1) hx hb dX9_isWithin_10 (by decide) ?_
      refine lv_goto (tgt := 15) hx hb dX9_isWithin_11 (by decide) ?_
      exact W.zret (v := 1) hx hb hr rfl (fun t ht hW => ⟨1, rfl, wi_1 c_1 c_2, ht⟩) t_nil dX9_isWithin_15
def quX10_in : List Cond := List.cons (.code yX10_in cX10_in 6 (some .boolean)) ([] : List Cond)
set_option maxHeartbeats 4000000 in
set_option maxRecDepth 100000 in
theorem qkX10_in (l : Launch) (dC : Nat → ClassId) (dI : Nat → Nat → Nat) (v : Int64) (lo : Int64) (hi : Int64) : Met l yX10_in quX10_in ({ frames := 0, cells := 0, slots := 0, locals := 0 }) (va_Pc [.long v, .long lo, .long hi] (fun _ => True)) (vp_Si (fun r => r = inr v lo hi)) 0 0 (fun _ => False) := by
  refine Met.ofW (cc := cX10_in) (maxL := 6) (ret := (some .boolean)) (by decide) rfl ?_
  intro p e s m args below meth c s₁ B hml hv
  obtain ⟨rfl, _⟩ := hv
  have hx := B.exec
  have hb := B.bytes
  have hr := B.returns
  have hts := atoms_spec (ws := quX10_in) B.pre
  have hown : s.vm.findClass RX10 = some m.cls := findClass_of_methodNamed B.named
  have hlocks := B.notSynchronized
  have hl := lv_entry ([.long v, .long lo, .long hi]) (n := 6) (Nat.le_of_ble_eq_true rfl)
  rw [lg_entry_eq]
  generalize (lg_sl ([.long v, .long lo, .long hi]) ++ List.replicate (6 - (lg_sl ([.long v, .long lo, .long hi])).length) Slot.unset).toArray = ls at hl ⊢
  have hl : lv_has ls 6 [(0, .long v), (2, .long lo), (4, .long hi)] := hl
  refine lv_lload_n hx hb dX10_in_0 rfl (lv_at hl 0 rfl) ?_
  refine lv_lload_n hx hb dX10_in_1 rfl (lv_at hl 1 rfl) ?_
  refine W.lcmp hx hb dX10_in_2 ?_
  refine lv_if_lt (tgt := 17) hx hb dX10_in_3 (by decide) (fun c_1 => ?_) (fun c_1 => ?_)
  ·
    refine lv_iconst (v := 0) hx hb dX10_in_17 (by decide) ?_
    exact W.zret (v := 0) hx hb hr rfl (fun t ht hW => ⟨0, rfl, inr_a c_1, ht⟩) t_nil dX10_in_18
  ·
    refine lv_lload_n hx hb dX10_in_6 rfl (lv_at hl 0 rfl) ?_
    refine lv_lload hx hb dX10_in_7 (lv_at hl 2 rfl) ?_
    refine W.lcmp hx hb dX10_in_9 ?_
    refine lv_if_gt (tgt := 17) hx hb dX10_in_10 (by decide) (fun c_2 => ?_) (fun c_2 => ?_)
    ·
      refine lv_iconst (v := 0) hx hb dX10_in_17 (by decide) ?_
      exact W.zret (v := 0) hx hb hr rfl (fun t ht hW => ⟨0, rfl, inr_b c_2, ht⟩) t_nil dX10_in_18
    ·
      refine lv_iconst (v := 1) hx hb dX10_in_13 (by decide) ?_
      refine lv_goto (tgt := 18) hx hb dX10_in_14 (by decide) ?_
      exact W.zret (v := 1) hx hb hr rfl (fun t ht hW => ⟨1, rfl, inr_1 c_1 c_2, ht⟩) t_nil dX10_in_18
theorem dX8_hasDay_0 : decode cX8_hasDay 0 = .ok (.iload_n 0, 1) := by decide +kernel
theorem dX8_hasDay_1 : decode cX8_hasDay 1 = .ok (.iconst 1, 1) := by decide +kernel
theorem dX8_hasDay_2 : decode cX8_hasDay 2 = .ok (.if_icmp .lt 14, 3) := by decide +kernel
theorem dX8_hasDay_5 : decode cX8_hasDay 5 = .ok (.iload_n 0, 1) := by decide +kernel
theorem dX8_hasDay_6 : decode cX8_hasDay 6 = .ok (.sipush 365, 3) := by decide +kernel
theorem dX8_hasDay_9 : decode cX8_hasDay 9 = .ok (.if_icmp .gt 7, 3) := by decide +kernel
theorem dX8_hasDay_12 : decode cX8_hasDay 12 = .ok (.iconst 1, 1) := by decide +kernel
theorem dX8_hasDay_13 : decode cX8_hasDay 13 = .ok (.goto 4, 3) := by decide +kernel
theorem dX8_hasDay_16 : decode cX8_hasDay 16 = .ok (.iconst 0, 1) := by decide +kernel
theorem dX8_hasDay_17 : decode cX8_hasDay 17 = .ok (.ireturn, 1) := by decide +kernel
def quX8_hasDay : List Cond := List.cons (.code yX8_hasDay cX8_hasDay 1 (some .boolean)) ([] : List Cond)
set_option maxHeartbeats 4000000 in
set_option maxRecDepth 100000 in
theorem qkX8_hasDay (l : Launch) (dC : Nat → ClassId) (dI : Nat → Nat → Nat) (a1 : Int32) : Met l yX8_hasDay quX8_hasDay ({ frames := 0, cells := 0, slots := 0, locals := 0 }) (va_Pc [.int a1] (fun _ => True)) (vp_Si (fun r => r = wi a1 1 365)) 0 0 (fun _ => False) := by
  refine Met.ofW (cc := cX8_hasDay) (maxL := 1) (ret := (some .boolean)) (by decide) rfl ?_
  intro p e s m args below meth c s₁ B hml hv
  obtain ⟨rfl, _⟩ := hv
  have hx := B.exec
  have hb := B.bytes
  have hr := B.returns
  have hts := atoms_spec (ws := quX8_hasDay) B.pre
  have hown : s.vm.findClass RX8 = some m.cls := findClass_of_methodNamed B.named
  have hlocks := B.notSynchronized
  have hl := lv_entry ([.int a1]) (n := 1) (Nat.le_of_ble_eq_true rfl)
  rw [lg_entry_eq]
  generalize (lg_sl ([.int a1]) ++ List.replicate (1 - (lg_sl ([.int a1])).length) Slot.unset).toArray = ls at hl ⊢
  have hl : lv_has ls 1 [(0, .int a1)] := hl
  refine lv_iload_n hx hb dX8_hasDay_0 rfl (lv_at hl 0 rfl) ?_
  refine lv_iconst (v := 1) hx hb dX8_hasDay_1 (by decide) ?_
  refine lv_icmp_lt (tgt := 16) hx hb dX8_hasDay_2 (by decide) (fun c_1 => ?_) (fun c_1 => ?_)
  ·
    refine lv_iconst (v := 0) hx hb dX8_hasDay_16 (by decide) ?_
    exact W.zret (v := 0) hx hb hr rfl (fun t ht hW => ⟨0, rfl, wi_a c_1, ht⟩) t_nil dX8_hasDay_17
  ·
    refine lv_iload_n hx hb dX8_hasDay_5 rfl (lv_at hl 0 rfl) ?_
    refine lv_sipush (v := 365) hx hb dX8_hasDay_6 (by decide) ?_
    refine lv_icmp_gt (tgt := 16) hx hb dX8_hasDay_9 (by decide) (fun c_2 => ?_) (fun c_2 => ?_)
    ·
      refine lv_iconst (v := 0) hx hb dX8_hasDay_16 (by decide) ?_
      exact W.zret (v := 0) hx hb hr rfl (fun t ht hW => ⟨0, rfl, wi_b c_2, ht⟩) t_nil dX8_hasDay_17
    ·
      refine lv_iconst (v := 1) hx hb dX8_hasDay_12 (by decide) ?_
      refine lv_goto (tgt := 17) hx hb dX8_hasDay_13 (by decide) ?_
      exact W.zret (v := 1) hx hb hr rfl (fun t ht hW => ⟨1, rfl, wi_1 c_1 c_2, ht⟩) t_nil dX8_hasDay_17
theorem dX8_lengthOf_0 : decode cX8_lengthOf 0 = .ok (.iload_n 0, 1) := by decide +kernel
theorem dX8_lengthOf_1 : decode cX8_lengthOf 1 = .ok (.iconst 1, 1) := by decide +kernel
theorem dX8_lengthOf_2 : decode cX8_lengthOf 2 = .ok (.if_icmp .lt 21, 3) := by decide +kernel
theorem dX8_lengthOf_5 : decode cX8_lengthOf 5 = .ok (.iload_n 0, 1) := by decide +kernel
theorem dX8_lengthOf_6 : decode cX8_lengthOf 6 = .ok (.getstatic 9, 3) := by decide +kernel
theorem dX8_lengthOf_9 : decode cX8_lengthOf 9 = .ok (.arraylength, 1) := by decide +kernel
theorem dX8_lengthOf_10 : decode cX8_lengthOf 10 = .ok (.if_icmp .gt 13, 3) := by decide +kernel
theorem dX8_lengthOf_13 : decode cX8_lengthOf 13 = .ok (.getstatic 9, 3) := by decide +kernel
theorem dX8_lengthOf_16 : decode cX8_lengthOf 16 = .ok (.iload_n 0, 1) := by decide +kernel
theorem dX8_lengthOf_17 : decode cX8_lengthOf 17 = .ok (.iconst 1, 1) := by decide +kernel
theorem dX8_lengthOf_18 : decode cX8_lengthOf 18 = .ok (.isub, 1) := by decide +kernel
theorem dX8_lengthOf_19 : decode cX8_lengthOf 19 = .ok (.iaload, 1) := by decide +kernel
theorem dX8_lengthOf_20 : decode cX8_lengthOf 20 = .ok (.goto 4, 3) := by decide +kernel
theorem dX8_lengthOf_24 : decode cX8_lengthOf 24 = .ok (.ireturn, 1) := by decide +kernel
def quX8_lengthOf : List Cond := List.cons (.code yX8_lengthOf cX8_lengthOf 1 (some .int)) ([.fieldLink RX8 9 "LuckyTicket$Year" "MONTHS" "[I"] : List Cond)
set_option maxHeartbeats 4000000 in
set_option maxRecDepth 100000 in
theorem qkX8_lengthOf (l : Launch) (dC : Nat → ClassId) (dI : Nat → Nat → Nat) (mm : Nat) (hm : mm < 12) : Met l yX8_lengthOf quX8_lengthOf ({ frames := 0, cells := 0, slots := 0, locals := 0 }) (va_Pc [.int (nI (mm + 1))] (yw)) (vp_Si (fun r => r = nI (mo mm))) 0 0 (fun _ => False) := by
  refine Met.ofW (cc := cX8_lengthOf) (maxL := 1) (ret := (some .int)) (by decide) rfl ?_
  intro p e s m args below meth c s₁ B hml hv
  obtain ⟨rfl, hY⟩ := hv
  have hx := B.exec
  have hb := B.bytes
  have hr := B.returns
  have hts := atoms_spec (ws := quX8_lengthOf) B.pre
  have hown : s.vm.findClass RX8 = some m.cls := findClass_of_methodNamed B.named
  have hlocks := B.notSynchronized
  obtain ⟨tM, hZ, hT⟩ := id hY
  have hS0 : va_S (fun _ => False) s.heap s.heap [] := va_S.rf
  have hl := lv_entry ([.int (nI (mm + 1))]) (n := 1) (Nat.le_of_ble_eq_true rfl)
  rw [lg_entry_eq]
  generalize (lg_sl ([.int (nI (mm + 1))]) ++ List.replicate (1 - (lg_sl ([.int (nI (mm + 1))])).length) Slot.unset).toArray = ls at hl ⊢
  have hl : lv_has ls 1 [(0, .int (nI (mm + 1)))] := hl
  refine lv_iload_n hx hb dX8_lengthOf_0 rfl (lv_at hl 0 rfl) ?_
  refine lv_iconst (v := 1) hx hb dX8_lengthOf_1 (by decide) ?_
  refine lv_icmp_lt (tgt := 23) hx hb dX8_lengthOf_2 (by decide) (fun c_1 => absurd (show mm + 1 < 1 from (nI_ltI (a := mm + 1) (b := 1) (by omega) (by omega)).mp c_1) (by omega)) (fun c_1 => ?_)
  refine lv_iload_n hx hb dX8_lengthOf_5 rfl (lv_at hl 0 rfl) ?_
  refine va_gets hx hb hZ hS0 hown (hts (.fieldLink RX8 9 "LuckyTicket$Year" "MONTHS" "[I") (List.mem_of_getElem? (i := 1) rfl)) (fun _ h9 => h9) dX8_lengthOf_6 ?_
  refine va_tlen (v := 12) hx hb hT hS0 (by rfl) dX8_lengthOf_9 ?_
  refine lv_icmp_gt (tgt := 23) hx hb dX8_lengthOf_10 (by decide) (fun c_2 => absurd (show 12 < mm + 1 from (nI_ltI (a := 12) (b := mm + 1) (by omega) (by omega)).mp c_2) (by omega)) (fun c_2 => ?_)
  refine va_gets hx hb hZ hS0 hown (hts (.fieldLink RX8 9 "LuckyTicket$Year" "MONTHS" "[I") (List.mem_of_getElem? (i := 1) rfl)) (fun _ h9 => h9) dX8_lengthOf_13 ?_
  refine lv_iload_n hx hb dX8_lengthOf_16 rfl (lv_at hl 0 rfl) ?_
  refine lv_iconst (v := 1) hx hb dX8_lengthOf_17 (by decide) ?_
  refine lv_isub hx hb dX8_lengthOf_18 ?_
  refine lv_topi (fun z_3 ez_3 => ?_)
  obtain rfl : z_3 = nI ((mm + 1) - 1) := ez_3.trans (pk_sub (a := mm + 1) (b := 1) (by omega))
  rw [show mm + 1 - 1 = mm from rfl]
  refine va_ti (v := .int (nI (mo mm))) hx hb hT hS0 (vp_in_nI (n := mm) (by omega) (by decide)) (by rw [nI_clamp (by omega)]; rfl) dX8_lengthOf_19 ?_
  refine lv_goto (tgt := 24) hx hb dX8_lengthOf_20 (by decide) ?_
  exact W.iret (v := (nI (mo mm))) hx hb hr (fun t ht hW => ⟨(nI (mo mm)), rfl, rfl, ht⟩) t_nil dX8_lengthOf_24
theorem dX8_figuresOf_0 : decode cX8_figuresOf 0 = .ok (.iload_n 0, 1) := by decide +kernel
theorem dX8_figuresOf_1 : decode cX8_figuresOf 1 = .ok (.istore_n 1, 1) := by decide +kernel
theorem dX8_figuresOf_2 : decode cX8_figuresOf 2 = .ok (.iconst 1, 1) := by decide +kernel
theorem dX8_figuresOf_3 : decode cX8_figuresOf 3 = .ok (.istore_n 2, 1) := by decide +kernel
theorem dX8_figuresOf_4 : decode cX8_figuresOf 4 = .ok (.iload_n 2, 1) := by decide +kernel
theorem dX8_figuresOf_5 : decode cX8_figuresOf 5 = .ok (.getstatic 9, 3) := by decide +kernel
theorem dX8_figuresOf_8 : decode cX8_figuresOf 8 = .ok (.arraylength, 1) := by decide +kernel
theorem dX8_figuresOf_9 : decode cX8_figuresOf 9 = .ok (.if_icmp .ge 24, 3) := by decide +kernel
theorem dX8_figuresOf_12 : decode cX8_figuresOf 12 = .ok (.iload_n 1, 1) := by decide +kernel
theorem dX8_figuresOf_13 : decode cX8_figuresOf 13 = .ok (.iload_n 2, 1) := by decide +kernel
theorem dX8_figuresOf_14 : decode cX8_figuresOf 14 = .ok (.invokestatic 13, 3) := by decide +kernel
theorem dX8_figuresOf_17 : decode cX8_figuresOf 17 = .ok (.if_icmp .le 16, 3) := by decide +kernel
theorem dX8_figuresOf_20 : decode cX8_figuresOf 20 = .ok (.iload_n 1, 1) := by decide +kernel
theorem dX8_figuresOf_21 : decode cX8_figuresOf 21 = .ok (.iload_n 2, 1) := by decide +kernel
theorem dX8_figuresOf_22 : decode cX8_figuresOf 22 = .ok (.invokestatic 13, 3) := by decide +kernel
theorem dX8_figuresOf_25 : decode cX8_figuresOf 25 = .ok (.isub, 1) := by decide +kernel
theorem dX8_figuresOf_26 : decode cX8_figuresOf 26 = .ok (.istore_n 1, 1) := by decide +kernel
theorem dX8_figuresOf_27 : decode cX8_figuresOf 27 = .ok (.iinc 2 1, 3) := by decide +kernel
theorem dX8_figuresOf_30 : decode cX8_figuresOf 30 = .ok (.goto (-26), 3) := by decide +kernel
theorem dX8_figuresOf_33 : decode cX8_figuresOf 33 = .ok (.iload_n 1, 1) := by decide +kernel
theorem dX8_figuresOf_34 : decode cX8_figuresOf 34 = .ok (.bipush 100, 2) := by decide +kernel
theorem dX8_figuresOf_36 : decode cX8_figuresOf 36 = .ok (.imul, 1) := by decide +kernel
theorem dX8_figuresOf_37 : decode cX8_figuresOf 37 = .ok (.iload_n 2, 1) := by decide +kernel
theorem dX8_figuresOf_38 : decode cX8_figuresOf 38 = .ok (.iadd, 1) := by decide +kernel
theorem dX8_figuresOf_39 : decode cX8_figuresOf 39 = .ok (.ireturn, 1) := by decide +kernel
def quX8_figuresOf : List Cond := List.cons (.code yX8_figuresOf cX8_figuresOf 3 (some .int)) ([.fieldLink RX8 9 "LuckyTicket$Year" "MONTHS" "[I", .methodLink RX8 13 yX8_lengthOf, .static yX8_lengthOf, .initialized RX8, .code yX8_lengthOf cX8_lengthOf 1 (some .int)] : List Cond)
set_option maxRecDepth 20000 in
theorem qgX8_figuresOf__X8_lengthOf_S13 : GoodIn quX8_figuresOf (va_wsS RX8 13 yX8_lengthOf quX8_lengthOf) := goodIn_p _ [5] rfl (by decide +kernel)
set_option maxHeartbeats 4000000 in
set_option maxRecDepth 100000 in
theorem qkX8_figuresOf (l : Launch) (dC : Nat → ClassId) (dI : Nat → Nat → Nat) (d : Nat) (hd1 : 1 ≤ d) (hd2 : d ≤ 365) : Met l yX8_figuresOf quX8_figuresOf ({ frames := 1, cells := 0, slots := 0, locals := 20 }) (va_Pc [.int (nI d)] (yw)) (vp_Si (fun r => r = nI (dt d))) 0 0 (fun _ => False) := by
  refine Met.ofW (cc := cX8_figuresOf) (maxL := 3) (ret := (some .int)) (by decide) rfl ?_
  intro p e s m args below meth c s₁ B hml hv
  obtain ⟨rfl, hY⟩ := hv
  have hx := B.exec
  have hb := B.bytes
  have hr := B.returns
  have hts := atoms_spec (ws := quX8_figuresOf) B.pre
  have hown : s.vm.findClass RX8 = some m.cls := findClass_of_methodNamed B.named
  have hlocks := B.notSynchronized
  obtain ⟨tM, hZ, hT⟩ := id hY
  have hS0 : va_S (fun _ => False) s.heap s.heap [] := va_S.rf
  have hl := lv_entry ([.int (nI d)]) (n := 3) (Nat.le_of_ble_eq_true rfl)
  rw [lg_entry_eq]
  generalize (lg_sl ([.int (nI d)]) ++ List.replicate (3 - (lg_sl ([.int (nI d)])).length) Slot.unset).toArray = ls at hl ⊢
  have hl : lv_has ls 3 [(0, .int (nI d))] := hl
  refine lv_iload_n hx hb dX8_figuresOf_0 rfl (lv_at hl 0 rfl) ?_
  refine lv_istore_n (lv' := [(1, .int (nI d)), (0, .int (nI d))]) hx hb dX8_figuresOf_1 rfl hl (by decide) rfl (fun ls hl => ?_)
  refine lv_iconst (v := 1) hx hb dX8_figuresOf_2 (by decide) ?_
  refine lv_istore_n (lv' := [(2, .int 1), (1, .int (nI d)), (0, .int (nI d))]) hx hb dX8_figuresOf_3 rfl hl (by decide) rfl (fun ls hl => ?_)
  refine loopP (σ := Nat × Nat) (fun v => 12 - v.2) (fun v ls => (1 ≤ v.1) ∧ (v.2 < 12) ∧ (dtL (MON.drop v.2) v.1 (v.2 + 1) = dt d) ∧ (v.1 ≤ (MON.drop v.2).sum) ∧ lv_has ls 3 [(2, .int (nI (v.2 + 1))), (1, .int (nI v.1)), (0, .int (nI d))]) (fun v ls hI ih_4 => ?_) (d, 0) ⟨(show 1 ≤ d from hd1), (show 0 < 12 from (by decide)), (show dtL (MON.drop 0) d (0 + 1) = dt d from rfl), (show d ≤ (MON.drop 0).sum from hd2), hl⟩
  obtain ⟨x, mm⟩ := v
  obtain ⟨hx1, hm, hdt, hsm, hl⟩ := hI
  have hx1 : 1 ≤ x := hx1
  have hm : mm < 12 := hm
  have hdt : dtL (MON.drop mm) x (mm + 1) = dt d := hdt
  have hsm : x ≤ (MON.drop mm).sum := hsm
  have hl : lv_has ls 3 [(2, .int (nI (mm + 1))), (1, .int (nI x)), (0, .int (nI d))] := hl
  have hmo := mo_le mm hm
  have hms := mo_sum mm hm
  have hx9 : x < 2 ^ 31 := Nat.lt_of_le_of_lt hsm (by have := mo_tot mm hm; omega)
  refine lv_iload_n hx hb dX8_figuresOf_4 rfl (lv_at hl 0 rfl) ?_
  refine va_gets hx hb hZ hS0 hown (hts (.fieldLink RX8 9 "LuckyTicket$Year" "MONTHS" "[I") (List.mem_of_getElem? (i := 1) rfl)) (fun _ h9 => h9) dX8_figuresOf_5 ?_
  refine va_tlen (v := 12) hx hb hT hS0 (by rfl) dX8_figuresOf_8 ?_
  refine lv_icmp_ge (tgt := 33) hx hb dX8_figuresOf_9 (by decide) (fun c_1 => ?_) (fun c_1 => ?_)
  ·
    have nc_1 : 12 ≤ mm + 1 := (nI_leI (a := 12) (b := mm + 1) (by omega) (by omega)).mp c_1
    refine lv_iload_n hx hb dX8_figuresOf_33 rfl (lv_at hl 1 rfl) ?_
    refine lv_bipush (v := 100) hx hb dX8_figuresOf_34 (by decide) ?_
    refine lv_imul hx hb dX8_figuresOf_36 ?_
    refine lv_topi (fun z_2 ez_2 => ?_)
    obtain rfl : z_2 = nI (x * 100) := ez_2.trans (pk_mul x 100)
    refine lv_iload_n hx hb dX8_figuresOf_37 rfl (lv_at hl 0 rfl) ?_
    refine lv_iadd hx hb dX8_figuresOf_38 ?_
    refine lv_topi (fun z_3 ez_3 => ?_)
    obtain rfl : z_3 = nI ((x * 100) + (mm + 1)) := ez_3.trans (nI_add (x * 100) (mm + 1))
    exact W.iret (v := (nI ((x * 100) + (mm + 1)))) hx hb hr (fun t ht hW => ⟨(nI ((x * 100) + (mm + 1))), rfl, (by rw [← hdt, dt_end hm (by first | omega | (have e9 : mm = 11 := by omega) <;> (subst e9; have := mo_12; omega))]), ht⟩) t_nil dX8_figuresOf_39
  ·
    have nc_1 : ¬ 12 ≤ mm + 1 := fun q9 => c_1 ((nI_leI (a := 12) (b := mm + 1) (by omega) (by omega)).mpr q9)
    refine lv_iload_n hx hb dX8_figuresOf_12 rfl (lv_at hl 1 rfl) ?_
    refine lv_iload_n hx hb dX8_figuresOf_13 rfl (lv_at hl 0 rfl) ?_
    refine vp_callSi (W.runS (As := [.int (nI (mm + 1))]) (rest := [.int (nI x)]) ⟨hx, hb, hml, hown, hts⟩ (qkX8_lengthOf l dC dI mm (by omega)) (va_cwS 1 hts qgX8_figuresOf__X8_lengthOf_S13 rfl rfl rfl (by decide +kernel) ⟨lel 1 1 rfl, lel 20 20 rfl⟩) ⟨yw_fb, (yw_use hY)⟩ rfl rfl hl.1 rfl (lv_room (Nat.le_of_ble_eq_true rfl)) dX8_figuresOf_14 ⟨lel 0 0 rfl, lel 0 0 rfl⟩) (fun r_4 hr_4 => ?_)
    obtain rfl : r_4 = (nI (mo mm)) := hr_4
    refine lv_icmp_le (tgt := 33) hx hb dX8_figuresOf_17 (by decide) (fun c_5 => ?_) (fun c_5 => ?_)
    ·
      have nc_5 : x ≤ mo mm := (nI_leI (a := x) (b := mo mm) (by omega) (by omega)).mp c_5
      refine lv_iload_n hx hb dX8_figuresOf_33 rfl (lv_at hl 1 rfl) ?_
      refine lv_bipush (v := 100) hx hb dX8_figuresOf_34 (by decide) ?_
      refine lv_imul hx hb dX8_figuresOf_36 ?_
      refine lv_topi (fun z_6 ez_6 => ?_)
      obtain rfl : z_6 = nI (x * 100) := ez_6.trans (pk_mul x 100)
      refine lv_iload_n hx hb dX8_figuresOf_37 rfl (lv_at hl 0 rfl) ?_
      refine lv_iadd hx hb dX8_figuresOf_38 ?_
      refine lv_topi (fun z_7 ez_7 => ?_)
      obtain rfl : z_7 = nI ((x * 100) + (mm + 1)) := ez_7.trans (nI_add (x * 100) (mm + 1))
      exact W.iret (v := (nI ((x * 100) + (mm + 1)))) hx hb hr (fun t ht hW => ⟨(nI ((x * 100) + (mm + 1))), rfl, (by rw [← hdt, dt_end hm (by first | omega | (have e9 : mm = 11 := by omega) <;> (subst e9; have := mo_12; omega))]), ht⟩) t_nil dX8_figuresOf_39
    ·
      have nc_5 : ¬ x ≤ mo mm := fun q9 => c_5 ((nI_leI (a := x) (b := mo mm) (by omega) (by omega)).mpr q9)
      refine lv_iload_n hx hb dX8_figuresOf_20 rfl (lv_at hl 1 rfl) ?_
      refine lv_iload_n hx hb dX8_figuresOf_21 rfl (lv_at hl 0 rfl) ?_
      refine vp_callSi (W.runS (As := [.int (nI (mm + 1))]) (rest := [.int (nI x)]) ⟨hx, hb, hml, hown, hts⟩ (qkX8_lengthOf l dC dI mm (by omega)) (va_cwS 1 hts qgX8_figuresOf__X8_lengthOf_S13 rfl rfl rfl (by decide +kernel) ⟨lel 1 1 rfl, lel 20 20 rfl⟩) ⟨yw_fb, (yw_use hY)⟩ rfl rfl hl.1 rfl (lv_room (Nat.le_of_ble_eq_true rfl)) dX8_figuresOf_22 ⟨lel 0 0 rfl, lel 0 0 rfl⟩) (fun r_8 hr_8 => ?_)
      obtain rfl : r_8 = (nI (mo mm)) := hr_8
      refine lv_isub hx hb dX8_figuresOf_25 ?_
      refine lv_topi (fun z_9 ez_9 => ?_)
      obtain rfl : z_9 = nI (x - (mo mm)) := ez_9.trans (pk_sub (a := x) (b := mo mm) (by omega))
      refine lv_istore_n (lv' := [(1, .int (nI (x - (mo mm)))), (2, .int (nI (mm + 1))), (0, .int (nI d))]) hx hb dX8_figuresOf_26 rfl hl (by decide) rfl (fun ls hl => ?_)
      obtain ⟨z_10, ez_10⟩ : ∃ y : Int32, y = nI (mm + 1) + 1 := ⟨_, rfl⟩
      refine lv_iinc (v := z_10) (lv' := [(2, .int z_10), (1, .int (nI (x - (mo mm)))), (0, .int (nI d))]) hx hb dX8_figuresOf_27 hl (k := 1) rfl (by rw [ez_10]; rfl) (by decide) rfl (fun ls hl => ?_)
      obtain rfl : z_10 = nI ((mm + 1) + 1) := ez_10.trans (nI_add (mm + 1) 1)
      refine lv_goto (tgt := 4) hx hb dX8_figuresOf_30 (by decide) ?_
      exact ih_4 (x - mo mm, mm + 1) _ ⟨(show 1 ≤ (x - mo mm) from (by omega)), (show (mm + 1) < 12 from (mo_last mm hm (by omega))), (show dtL (MON.drop (mm + 1)) (x - mo mm) ((mm + 1) + 1) = dt d from (by rw [← hdt, dt_step hm (by omega)])), (show (x - mo mm) ≤ (MON.drop (mm + 1)).sum from (by omega)), lv_sub hl [0, 1, 2] rfl⟩ (show 12 - (mm + 1) < 12 - mm by omega)
theorem dX8_isLuckyDate_0 : decode cX8_isLuckyDate 0 = .ok (.iload_n 0, 1) := by decide +kernel
theorem dX8_isLuckyDate_1 : decode cX8_isLuckyDate 1 = .ok (.bipush 100, 2) := by decide +kernel
theorem dX8_isLuckyDate_3 : decode cX8_isLuckyDate 3 = .ok (.idiv, 1) := by decide +kernel
theorem dX8_isLuckyDate_4 : decode cX8_isLuckyDate 4 = .ok (.istore_n 1, 1) := by decide +kernel
theorem dX8_isLuckyDate_5 : decode cX8_isLuckyDate 5 = .ok (.iload_n 0, 1) := by decide +kernel
theorem dX8_isLuckyDate_6 : decode cX8_isLuckyDate 6 = .ok (.bipush 100, 2) := by decide +kernel
theorem dX8_isLuckyDate_8 : decode cX8_isLuckyDate 8 = .ok (.irem, 1) := by decide +kernel
theorem dX8_isLuckyDate_9 : decode cX8_isLuckyDate 9 = .ok (.istore_n 2, 1) := by decide +kernel
theorem dX8_isLuckyDate_10 : decode cX8_isLuckyDate 10 = .ok (.iload_n 1, 1) := by decide +kernel
theorem dX8_isLuckyDate_11 : decode cX8_isLuckyDate 11 = .ok (.bipush 10, 2) := by decide +kernel
theorem dX8_isLuckyDate_13 : decode cX8_isLuckyDate 13 = .ok (.idiv, 1) := by decide +kernel
theorem dX8_isLuckyDate_14 : decode cX8_isLuckyDate 14 = .ok (.iload_n 1, 1) := by decide +kernel
theorem dX8_isLuckyDate_15 : decode cX8_isLuckyDate 15 = .ok (.bipush 10, 2) := by decide +kernel
theorem dX8_isLuckyDate_17 : decode cX8_isLuckyDate 17 = .ok (.irem, 1) := by decide +kernel
theorem dX8_isLuckyDate_18 : decode cX8_isLuckyDate 18 = .ok (.iadd, 1) := by decide +kernel
theorem dX8_isLuckyDate_19 : decode cX8_isLuckyDate 19 = .ok (.iload_n 2, 1) := by decide +kernel
theorem dX8_isLuckyDate_20 : decode cX8_isLuckyDate 20 = .ok (.bipush 10, 2) := by decide +kernel
theorem dX8_isLuckyDate_22 : decode cX8_isLuckyDate 22 = .ok (.idiv, 1) := by decide +kernel
theorem dX8_isLuckyDate_23 : decode cX8_isLuckyDate 23 = .ok (.iload_n 2, 1) := by decide +kernel
theorem dX8_isLuckyDate_24 : decode cX8_isLuckyDate 24 = .ok (.bipush 10, 2) := by decide +kernel
theorem dX8_isLuckyDate_26 : decode cX8_isLuckyDate 26 = .ok (.irem, 1) := by decide +kernel
theorem dX8_isLuckyDate_27 : decode cX8_isLuckyDate 27 = .ok (.iadd, 1) := by decide +kernel
theorem dX8_isLuckyDate_28 : decode cX8_isLuckyDate 28 = .ok (.if_icmp .ne 7, 3) := by decide +kernel
theorem dX8_isLuckyDate_31 : decode cX8_isLuckyDate 31 = .ok (.iconst 1, 1) := by decide +kernel
theorem dX8_isLuckyDate_32 : decode cX8_isLuckyDate 32 = .ok (.goto 4, 3) := by decide +kernel
theorem dX8_isLuckyDate_35 : decode cX8_isLuckyDate 35 = .ok (.iconst 0, 1) := by decide +kernel
theorem dX8_isLuckyDate_36 : decode cX8_isLuckyDate 36 = .ok (.ireturn, 1) := by decide +kernel
def quX8_isLuckyDate : List Cond := List.cons (.code yX8_isLuckyDate cX8_isLuckyDate 3 (some .boolean)) ([] : List Cond)
set_option maxHeartbeats 4000000 in
set_option maxRecDepth 100000 in
theorem qkX8_isLuckyDate (l : Launch) (dC : Nat → ClassId) (dI : Nat → Nat → Nat) (k : Nat) (hk : k < 10000) : Met l yX8_isLuckyDate quX8_isLuckyDate ({ frames := 0, cells := 0, slots := 0, locals := 0 }) (va_Pc [.int (nI k)] (fun _ => True)) (vp_Si (fun r => r = lb k)) 0 0 (fun _ => False) := by
  refine Met.ofW (cc := cX8_isLuckyDate) (maxL := 3) (ret := (some .boolean)) (by decide) rfl ?_
  intro p e s m args below meth c s₁ B hml hv
  obtain ⟨rfl, _⟩ := hv
  have hx := B.exec
  have hb := B.bytes
  have hr := B.returns
  have hts := atoms_spec (ws := quX8_isLuckyDate) B.pre
  have hown : s.vm.findClass RX8 = some m.cls := findClass_of_methodNamed B.named
  have hlocks := B.notSynchronized
  have hl := lv_entry ([.int (nI k)]) (n := 3) (Nat.le_of_ble_eq_true rfl)
  rw [lg_entry_eq]
  generalize (lg_sl ([.int (nI k)]) ++ List.replicate (3 - (lg_sl ([.int (nI k)])).length) Slot.unset).toArray = ls at hl ⊢
  have hl : lv_has ls 3 [(0, .int (nI k))] := hl
  refine lv_iload_n hx hb dX8_isLuckyDate_0 rfl (lv_at hl 0 rfl) ?_
  refine lv_bipush (v := 100) hx hb dX8_isLuckyDate_1 (by decide) ?_
  refine lv_idiv hx hb dX8_isLuckyDate_3 (by decide) ?_
  refine lv_topi (fun z_1 ez_1 => ?_)
  obtain rfl : z_1 = nI (k / 100) := ez_1.trans (pk_div (a := k) (d := 100) (by omega) (by omega) (by omega))
  refine lv_istore_n (lv' := [(1, .int (nI (k / 100))), (0, .int (nI k))]) hx hb dX8_isLuckyDate_4 rfl hl (by decide) rfl (fun ls hl => ?_)
  refine lv_iload_n hx hb dX8_isLuckyDate_5 rfl (lv_at hl 1 rfl) ?_
  refine lv_bipush (v := 100) hx hb dX8_isLuckyDate_6 (by decide) ?_
  refine lv_irem hx hb dX8_isLuckyDate_8 (by decide) ?_
  refine lv_topi (fun z_2 ez_2 => ?_)
  obtain rfl : z_2 = nI (k % 100) := ez_2.trans (pk_rem (a := k) (d := 100) (by omega) (by omega) (by omega))
  refine lv_istore_n (lv' := [(2, .int (nI (k % 100))), (1, .int (nI (k / 100))), (0, .int (nI k))]) hx hb dX8_isLuckyDate_9 rfl hl (by decide) rfl (fun ls hl => ?_)
  refine lv_iload_n hx hb dX8_isLuckyDate_10 rfl (lv_at hl 1 rfl) ?_
  refine lv_bipush (v := 10) hx hb dX8_isLuckyDate_11 (by decide) ?_
  refine lv_idiv hx hb dX8_isLuckyDate_13 (by decide) ?_
  refine lv_topi (fun z_3 ez_3 => ?_)
  obtain rfl : z_3 = nI ((k / 100) / 10) := ez_3.trans (pk_div (a := k / 100) (d := 10) (by omega) (by omega) (by omega))
  refine lv_iload_n hx hb dX8_isLuckyDate_14 rfl (lv_at hl 1 rfl) ?_
  refine lv_bipush (v := 10) hx hb dX8_isLuckyDate_15 (by decide) ?_
  refine lv_irem hx hb dX8_isLuckyDate_17 (by decide) ?_
  refine lv_topi (fun z_4 ez_4 => ?_)
  obtain rfl : z_4 = nI ((k / 100) % 10) := ez_4.trans (pk_rem (a := k / 100) (d := 10) (by omega) (by omega) (by omega))
  refine lv_iadd hx hb dX8_isLuckyDate_18 ?_
  refine lv_topi (fun z_5 ez_5 => ?_)
  obtain rfl : z_5 = nI (((k / 100) / 10) + ((k / 100) % 10)) := ez_5.trans (nI_add ((k / 100) / 10) ((k / 100) % 10))
  refine lv_iload_n hx hb dX8_isLuckyDate_19 rfl (lv_at hl 0 rfl) ?_
  refine lv_bipush (v := 10) hx hb dX8_isLuckyDate_20 (by decide) ?_
  refine lv_idiv hx hb dX8_isLuckyDate_22 (by decide) ?_
  refine lv_topi (fun z_6 ez_6 => ?_)
  obtain rfl : z_6 = nI ((k % 100) / 10) := ez_6.trans (pk_div (a := k % 100) (d := 10) (by omega) (by omega) (by omega))
  refine lv_iload_n hx hb dX8_isLuckyDate_23 rfl (lv_at hl 0 rfl) ?_
  refine lv_bipush (v := 10) hx hb dX8_isLuckyDate_24 (by decide) ?_
  refine lv_irem hx hb dX8_isLuckyDate_26 (by decide) ?_
  refine lv_topi (fun z_7 ez_7 => ?_)
  obtain rfl : z_7 = nI ((k % 100) % 10) := ez_7.trans (pk_rem (a := k % 100) (d := 10) (by omega) (by omega) (by omega))
  refine lv_iadd hx hb dX8_isLuckyDate_27 ?_
  refine lv_topi (fun z_8 ez_8 => ?_)
  obtain rfl : z_8 = nI (((k % 100) / 10) + ((k % 100) % 10)) := ez_8.trans (nI_add ((k % 100) / 10) ((k % 100) % 10))
  refine lv_icmp_ne (tgt := 35) hx hb dX8_isLuckyDate_28 (by decide) (fun c_9 => ?_) (fun c_9 => ?_)
  ·
    have nc_9 : ¬ (((k / 100) / 10) + ((k / 100) % 10) = ((k % 100) / 10) + ((k % 100) % 10)) := fun q9 => c_9 ((nI_eq (a := ((k / 100) / 10) + ((k / 100) % 10)) (b := ((k % 100) / 10) + ((k % 100) % 10)) (by omega) (by omega)).mpr q9)
    refine lv_iconst (v := 0) hx hb dX8_isLuckyDate_35 (by decide) ?_
    exact W.zret (v := 0) hx hb hr rfl (fun t ht hW => ⟨0, rfl, lb_f (fun q => nc_9 ((ld_x k).mpr q)), ht⟩) t_nil dX8_isLuckyDate_36
  ·
    have nc_9 : ((k / 100) / 10) + ((k / 100) % 10) = ((k % 100) / 10) + ((k % 100) % 10) := (nI_eq (a := ((k / 100) / 10) + ((k / 100) % 10)) (b := ((k % 100) / 10) + ((k % 100) % 10)) (by omega) (by omega)).mp c_9
    refine lv_iconst (v := 1) hx hb dX8_isLuckyDate_31 (by decide) ?_
    refine lv_goto (tgt := 36) hx hb dX8_isLuckyDate_32 (by decide) ?_
    exact W.zret (v := 1) hx hb hr rfl (fun t ht hW => ⟨1, rfl, lb_t ((ld_x k).mp nc_9), ht⟩) t_nil dX8_isLuckyDate_36
theorem dX9_date_0 : decode cX9_date 0 = .ok (.iload_n 1, 1) := by decide +kernel
theorem dX9_date_1 : decode cX9_date 1 = .ok (.invokestatic 304, 3) := by decide +kernel
theorem dX9_date_4 : decode cX9_date 4 = .ok (.ifCond .eq 10, 3) := by decide +kernel
theorem dX9_date_7 : decode cX9_date 7 = .ok (.iload_n 1, 1) := by decide +kernel
theorem dX9_date_8 : decode cX9_date 8 = .ok (.invokestatic 309, 3) := by decide +kernel
theorem dX9_date_11 : decode cX9_date 11 = .ok (.goto 5, 3) := by decide +kernel
theorem dX9_date_14 : decode cX9_date 14 = .ok (.bipush (-2), 2) := by decide +kernel
theorem dX9_date_16 : decode cX9_date 16 = .ok (.ireturn, 1) := by decide +kernel
def quX9_date : List Cond := List.cons (.code yX9_date cX9_date 2 (some .int)) ([.methodLink RX9 304 yX8_hasDay, .static yX8_hasDay, .initialized RX8, .code yX8_hasDay cX8_hasDay 1 (some .boolean), .methodLink RX9 309 yX8_figuresOf, .static yX8_figuresOf, .code yX8_figuresOf cX8_figuresOf 3 (some .int), .fieldLink RX8 9 "LuckyTicket$Year" "MONTHS" "[I", .methodLink RX8 13 yX8_lengthOf, .static yX8_lengthOf, .code yX8_lengthOf cX8_lengthOf 1 (some .int)] : List Cond)
set_option maxRecDepth 20000 in
theorem qgX9_date__X8_hasDay_S304 : GoodIn quX9_date (va_wsS RX9 304 yX8_hasDay quX8_hasDay) := goodIn_p _ [4] rfl (by decide +kernel)
set_option maxRecDepth 20000 in
theorem qgX9_date__X8_figuresOf_S309 : GoodIn quX9_date (va_wsS RX9 309 yX8_figuresOf quX8_figuresOf) := goodIn_p _ [7, 11] rfl (by decide +kernel)
set_option maxHeartbeats 4000000 in
set_option maxRecDepth 100000 in
theorem qkX9_date (l : Launch) (dC : Nat → ClassId) (dI : Nat → Nat → Nat) (h0 : Nat) (a1 : Int32) : Met l yX9_date quX9_date ({ frames := 2, cells := 0, slots := 0, locals := 42 }) (va_Pc [.ref h0, .int a1] (yw)) (vp_Si (fun r => r = dte a1)) 0 0 (fun _ => False) := by
  refine Met.ofW (cc := cX9_date) (maxL := 2) (ret := (some .int)) (by decide) rfl ?_
  intro p e s m args below meth c s₁ B hml hv
  obtain ⟨rfl, hY⟩ := hv
  have hx := B.exec
  have hb := B.bytes
  have hr := B.returns
  have hts := atoms_spec (ws := quX9_date) B.pre
  have hown : s.vm.findClass RX9 = some m.cls := findClass_of_methodNamed B.named
  have hlocks := B.notSynchronized
  obtain ⟨tM, hZ, hT⟩ := id hY
  have hS0 : va_S (fun _ => False) s.heap s.heap [] := va_S.rf
  have hl := lv_entry ([.ref h0, .int a1]) (n := 2) (Nat.le_of_ble_eq_true rfl)
  rw [lg_entry_eq]
  generalize (lg_sl ([.ref h0, .int a1]) ++ List.replicate (2 - (lg_sl ([.ref h0, .int a1])).length) Slot.unset).toArray = ls at hl ⊢
  have hl : lv_has ls 2 [(0, .ref h0), (1, .int a1)] := hl
  refine lv_iload_n hx hb dX9_date_0 rfl (lv_at hl 1 rfl) ?_
  refine vp_callSi (W.runS (As := [.int a1]) (rest := []) ⟨hx, hb, hml, hown, hts⟩ (qkX8_hasDay l dC dI a1) (va_cwS 1 hts qgX9_date__X8_hasDay_S304 rfl rfl rfl (by decide +kernel) ⟨lel 1 2 rfl, lel 20 42 rfl⟩) ⟨pn_fb, pn_use⟩ rfl rfl hl.1 rfl (lv_room (Nat.le_of_ble_eq_true rfl)) dX9_date_1 ⟨lel 0 0 rfl, lel 0 0 rfl⟩) (fun r_1 hr_1 => ?_)
  refine lv_if_eq (tgt := 14) hx hb dX9_date_4 (by decide) (fun c_2 => ?_) (fun c_2 => ?_)
  ·
    refine lv_bipush (v := (-2)) hx hb dX9_date_14 (by decide) ?_
    exact W.iret (v := (-2)) hx hb hr (fun t ht hW => ⟨(-2), rfl, dte_0 (hr_1.symm.trans c_2), ht⟩) t_nil dX9_date_16
  ·
    obtain ⟨d, hd1, hd2, rfl⟩ := wi_rg (k := 365) (by decide) (by decide) (fun e => c_2 (hr_1.trans e))
    refine lv_iload_n hx hb dX9_date_7 rfl (lv_at hl 1 rfl) ?_
    refine vp_callSi (W.runS (As := [.int (nI d)]) (rest := []) ⟨hx, hb, hml, hown, hts⟩ (qkX8_figuresOf l dC dI d (by first | omega | exact (nx_le _ _).1) (by first | omega | exact (nx_le _ _).2)) (va_cwS 1 hts qgX9_date__X8_figuresOf_S309 rfl rfl rfl (by decide +kernel) ⟨lel 2 2 rfl, lel 42 42 rfl⟩) ⟨yw_fb, (yw_use hY)⟩ rfl rfl hl.1 rfl (lv_room (Nat.le_of_ble_eq_true rfl)) dX9_date_8 ⟨lel 0 0 rfl, lel 0 0 rfl⟩) (fun r_3 hr_3 => ?_)
    obtain rfl : r_3 = (nI (dt d)) := hr_3
    refine lv_goto (tgt := 16) hx hb dX9_date_11 (by decide) ?_
    exact W.iret (v := (nI (dt d))) hx hb hr (fun t ht hW => ⟨(nI (dt d)), rfl, dte_1 (fun e => c_2 (hr_1.trans e)) hd2, ht⟩) t_nil dX9_date_16
theorem dX9_days_0 : decode cX9_days 0 = .ok (.iload_n 1, 1) := by decide +kernel
theorem dX9_days_1 : decode cX9_days 1 = .ok (.invokestatic 304, 3) := by decide +kernel
theorem dX9_days_4 : decode cX9_days 4 = .ok (.ifCond .ne 6, 3) := by decide +kernel
theorem dX9_days_7 : decode cX9_days 7 = .ok (.bipush (-2), 2) := by decide +kernel
theorem dX9_days_9 : decode cX9_days 9 = .ok (.ireturn, 1) := by decide +kernel
theorem dX9_days_10 : decode cX9_days 10 = .ok (.iload_n 1, 1) := by decide +kernel
theorem dX9_days_11 : decode cX9_days 11 = .ok (.istore_n 2, 1) := by decide +kernel
theorem dX9_days_12 : decode cX9_days 12 = .ok (.iconst 1, 1) := by decide +kernel
theorem dX9_days_13 : decode cX9_days 13 = .ok (.istore_n 3, 1) := by decide +kernel
theorem dX9_days_14 : decode cX9_days 14 = .ok (.iload_n 3, 1) := by decide +kernel
theorem dX9_days_15 : decode cX9_days 15 = .ok (.sipush 365, 3) := by decide +kernel
theorem dX9_days_18 : decode cX9_days 18 = .ok (.if_icmp .gt 36, 3) := by decide +kernel
theorem dX9_days_21 : decode cX9_days 21 = .ok (.iload_n 2, 1) := by decide +kernel
theorem dX9_days_22 : decode cX9_days 22 = .ok (.sipush 365, 3) := by decide +kernel
theorem dX9_days_25 : decode cX9_days 25 = .ok (.if_icmp .ne 7, 3) := by decide +kernel
theorem dX9_days_28 : decode cX9_days 28 = .ok (.iconst 1, 1) := by decide +kernel
theorem dX9_days_29 : decode cX9_days 29 = .ok (.goto 6, 3) := by decide +kernel
theorem dX9_days_32 : decode cX9_days 32 = .ok (.iload_n 2, 1) := by decide +kernel
theorem dX9_days_33 : decode cX9_days 33 = .ok (.iconst 1, 1) := by decide +kernel
theorem dX9_days_34 : decode cX9_days 34 = .ok (.iadd, 1) := by decide +kernel
theorem dX9_days_35 : decode cX9_days 35 = .ok (.istore_n 2, 1) := by decide +kernel
theorem dX9_days_36 : decode cX9_days 36 = .ok (.iload_n 2, 1) := by decide +kernel
theorem dX9_days_37 : decode cX9_days 37 = .ok (.invokestatic 309, 3) := by decide +kernel
theorem dX9_days_40 : decode cX9_days 40 = .ok (.invokestatic 312, 3) := by decide +kernel
theorem dX9_days_43 : decode cX9_days 43 = .ok (.ifCond .eq 5, 3) := by decide +kernel
theorem dX9_days_46 : decode cX9_days 46 = .ok (.iload_n 3, 1) := by decide +kernel
theorem dX9_days_47 : decode cX9_days 47 = .ok (.ireturn, 1) := by decide +kernel
theorem dX9_days_48 : decode cX9_days 48 = .ok (.iinc 3 1, 3) := by decide +kernel
theorem dX9_days_51 : decode cX9_days 51 = .ok (.goto (-37), 3) := by decide +kernel
def quX9_days : List Cond := List.cons (.code yX9_days cX9_days 4 (some .int)) ([.methodLink RX9 304 yX8_hasDay, .static yX8_hasDay, .initialized RX8, .code yX8_hasDay cX8_hasDay 1 (some .boolean), .methodLink RX9 309 yX8_figuresOf, .static yX8_figuresOf, .code yX8_figuresOf cX8_figuresOf 3 (some .int), .fieldLink RX8 9 "LuckyTicket$Year" "MONTHS" "[I", .methodLink RX8 13 yX8_lengthOf, .static yX8_lengthOf, .code yX8_lengthOf cX8_lengthOf 1 (some .int), .methodLink RX9 312 yX8_isLuckyDate, .static yX8_isLuckyDate, .code yX8_isLuckyDate cX8_isLuckyDate 3 (some .boolean)] : List Cond)
set_option maxRecDepth 20000 in
theorem qgX9_days__X8_hasDay_S304 : GoodIn quX9_days (va_wsS RX9 304 yX8_hasDay quX8_hasDay) := goodIn_p _ [4] rfl (by decide +kernel)
set_option maxRecDepth 20000 in
theorem qgX9_days__X8_figuresOf_S309 : GoodIn quX9_days (va_wsS RX9 309 yX8_figuresOf quX8_figuresOf) := goodIn_p _ [7, 11] rfl (by decide +kernel)
set_option maxRecDepth 20000 in
theorem qgX9_days__X8_isLuckyDate_S312 : GoodIn quX9_days (va_wsS RX9 312 yX8_isLuckyDate quX8_isLuckyDate) := goodIn_p _ [14] rfl (by decide +kernel)
set_option maxHeartbeats 4000000 in
set_option maxRecDepth 100000 in
theorem qkX9_days (l : Launch) (dC : Nat → ClassId) (dI : Nat → Nat → Nat) (h0 : Nat) (a1 : Int32) : Met l yX9_days quX9_days ({ frames := 2, cells := 0, slots := 0, locals := 42 }) (va_Pc [.ref h0, .int a1] (yw)) (vp_Si (fun r => dq a1 r)) 0 0 (fun _ => False) := by
  refine Met.ofW (cc := cX9_days) (maxL := 4) (ret := (some .int)) (by decide) rfl ?_
  intro p e s m args below meth c s₁ B hml hv
  obtain ⟨rfl, hY⟩ := hv
  have hx := B.exec
  have hb := B.bytes
  have hr := B.returns
  have hts := atoms_spec (ws := quX9_days) B.pre
  have hown : s.vm.findClass RX9 = some m.cls := findClass_of_methodNamed B.named
  have hlocks := B.notSynchronized
  obtain ⟨tM, hZ, hT⟩ := id hY
  have hS0 : va_S (fun _ => False) s.heap s.heap [] := va_S.rf
  have hl := lv_entry ([.ref h0, .int a1]) (n := 4) (Nat.le_of_ble_eq_true rfl)
  rw [lg_entry_eq]
  generalize (lg_sl ([.ref h0, .int a1]) ++ List.replicate (4 - (lg_sl ([.ref h0, .int a1])).length) Slot.unset).toArray = ls at hl ⊢
  have hl : lv_has ls 4 [(0, .ref h0), (1, .int a1)] := hl
  refine lv_iload_n hx hb dX9_days_0 rfl (lv_at hl 1 rfl) ?_
  refine vp_callSi (W.runS (As := [.int a1]) (rest := []) ⟨hx, hb, hml, hown, hts⟩ (qkX8_hasDay l dC dI a1) (va_cwS 1 hts qgX9_days__X8_hasDay_S304 rfl rfl rfl (by decide +kernel) ⟨lel 1 2 rfl, lel 20 42 rfl⟩) ⟨pn_fb, pn_use⟩ rfl rfl hl.1 rfl (lv_room (Nat.le_of_ble_eq_true rfl)) dX9_days_1 ⟨lel 0 0 rfl, lel 0 0 rfl⟩) (fun r_1 hr_1 => ?_)
  refine lv_if_ne (tgt := 10) hx hb dX9_days_4 (by decide) (fun c_2 => ?_) (fun c_2 => ?_)
  ·
    obtain ⟨d, hd1, hd2, rfl⟩ := wi_rg (k := 365) (by decide) (by decide) (fun e => c_2 (hr_1.trans e))
    refine lv_iload_n hx hb dX9_days_10 rfl (lv_at hl 1 rfl) ?_
    refine lv_istore_n (lv' := [(2, .int (nI d)), (0, .ref h0), (1, .int (nI d))]) hx hb dX9_days_11 rfl hl (by decide) rfl (fun ls hl => ?_)
    refine lv_iconst (v := 1) hx hb dX9_days_12 (by decide) ?_
    refine lv_istore_n (lv' := [(3, .int 1), (2, .int (nI d)), (0, .ref h0), (1, .int (nI d))]) hx hb dX9_days_13 rfl hl (by decide) rfl (fun ls hl => ?_)
    have hl : lv_has ls 4 [(3, .int 1), (2, .int (nI (nxt d (1 - 1)))), (0, .ref h0), (1, .int (nI d))] := by rw [show nxt d (1 - 1) = d from nx_0 hd1 hd2]; exact hl
    refine loopP (σ := Nat) (fun v => 367 - v) (fun v ls => (1 ≤ v ∧ v ≤ 366) ∧ (∀ n, 1 ≤ n → n < v → ld (dt (nxt d n)) = false) ∧ lv_has ls 4 [(3, .int (nI v)), (2, .int (nI (nxt d (v - 1)))), (0, .ref h0), (1, .int (nI d))]) (fun v ls hI ih_14 => ?_) 1 ⟨(show 1 ≤ 1 ∧ 1 ≤ 366 from (by decide)), (show ∀ n, 1 ≤ n → n < 1 → ld (dt (nxt d n)) = false from (fun n h1 h2 => absurd h1 (by omega))), hl⟩
    obtain ⟨b, rfl⟩ : ∃ z, z = v := ⟨_, rfl⟩
    obtain ⟨hb1, hno, hl⟩ := hI
    have hb1 : 1 ≤ b ∧ b ≤ 366 := hb1
    have hno : ∀ n, 1 ≤ n → n < b → ld (dt (nxt d n)) = false := hno
    have hl : lv_has ls 4 [(3, .int (nI b)), (2, .int (nI (nxt d (b - 1)))), (0, .ref h0), (1, .int (nI d))] := hl
    have hb1a := hb1.1
    have hb1b : b ≤ 365 := by
      rcases Nat.lt_or_ge b 366 with q | q
      · omega
      · exact (day_no hd1 hd2 q hno).elim
    have hnx := nx_le d (b - 1)
    have hnx1 := hnx.1
    have hnx2 := hnx.2
    have hny := nx_le d b
    have hny1 := hny.1
    have hny2 := hny.2
    refine lv_iload_n hx hb dX9_days_14 rfl (lv_at hl 0 rfl) ?_
    refine lv_sipush (v := 365) hx hb dX9_days_15 (by decide) ?_
    refine lv_icmp_gt (tgt := 54) hx hb dX9_days_18 (by decide) (fun c_3 => (day_no hd1 hd2 ((nI_ltI (a := 365) (b := b) (by omega) (by omega)).mp c_3) hno).elim) (fun c_3 => ?_)
    refine lv_iload_n hx hb dX9_days_21 rfl (lv_at hl 1 rfl) ?_
    refine lv_sipush (v := 365) hx hb dX9_days_22 (by decide) ?_
    refine lv_icmp_ne (tgt := 32) hx hb dX9_days_25 (by decide) (fun c_4 => ?_) (fun c_4 => ?_)
    ·
      have nc_4 : ¬ (nxt d (b - 1) = 365) := fun q9 => c_4 ((nI_eq (a := nxt d (b - 1)) (b := 365) (by omega) (by omega)).mpr q9)
      refine lv_iload_n hx hb dX9_days_32 rfl (lv_at hl 1 rfl) ?_
      refine lv_iconst (v := 1) hx hb dX9_days_33 (by decide) ?_
      refine lv_iadd hx hb dX9_days_34 ?_
      refine lv_topi (fun z_5 ez_5 => ?_)
      obtain rfl : z_5 = nI ((nxt d (b - 1)) + 1) := ez_5.trans (nI_add (nxt d (b - 1)) 1)
      refine W.eq (g2 := F0 m 35 ls [.int (nI (nxt d b))]) (congrArg (fun v => F0 m 35 ls [.int v]) (nx_b hd1 hb1a nc_4)) ?_
      refine lv_istore_n (lv' := [(2, .int (nI (nxt d b))), (3, .int (nI b)), (0, .ref h0), (1, .int (nI d))]) hx hb dX9_days_35 rfl hl (by decide) rfl (fun ls hl => ?_)
      refine lv_iload_n hx hb dX9_days_36 rfl (lv_at hl 0 rfl) ?_
      refine vp_callSi (W.runS (As := [.int (nI (nxt d b))]) (rest := []) ⟨hx, hb, hml, hown, hts⟩ (qkX8_figuresOf l dC dI (nxt d b) (by first | omega | exact (nx_le _ _).1) (by first | omega | exact (nx_le _ _).2)) (va_cwS 1 hts qgX9_days__X8_figuresOf_S309 rfl rfl rfl (by decide +kernel) ⟨lel 2 2 rfl, lel 42 42 rfl⟩) ⟨yw_fb, (yw_use hY)⟩ rfl rfl hl.1 rfl (lv_room (Nat.le_of_ble_eq_true rfl)) dX9_days_37 ⟨lel 0 0 rfl, lel 0 0 rfl⟩) (fun r_6 hr_6 => ?_)
      obtain rfl : r_6 = (nI (dt (nxt d b))) := hr_6
      refine vp_callSi (W.runS (As := [.int (nI (dt (nxt d b)))]) (rest := []) ⟨hx, hb, hml, hown, hts⟩ (qkX8_isLuckyDate l dC dI (dt (nxt d b)) (by first | omega | exact dt_lt _ (by have := nx_le d b; omega) | exact dt_lt _ (by omega))) (va_cwS 1 hts qgX9_days__X8_isLuckyDate_S312 rfl rfl rfl (by decide +kernel) ⟨lel 1 2 rfl, lel 22 42 rfl⟩) ⟨pn_fb, pn_use⟩ rfl rfl hl.1 rfl (lv_room (Nat.le_of_ble_eq_true rfl)) dX9_days_40 ⟨lel 0 0 rfl, lel 0 0 rfl⟩) (fun r_7 hr_7 => ?_)
      obtain rfl : r_7 = (lb (dt (nxt d b))) := hr_7
      refine lv_if_eq (tgt := 48) hx hb dX9_days_43 (by decide) (fun c_8 => ?_) (fun c_8 => ?_)
      ·
        obtain ⟨z_9, ez_9⟩ : ∃ y : Int32, y = nI b + 1 := ⟨_, rfl⟩
        refine lv_iinc (v := z_9) (lv' := [(3, .int z_9), (2, .int (nI (nxt d b))), (0, .ref h0), (1, .int (nI d))]) hx hb dX9_days_48 hl (k := 1) rfl (by rw [ez_9]; rfl) (by decide) rfl (fun ls hl => ?_)
        obtain rfl : z_9 = nI (b + 1) := ez_9.trans (nI_add b 1)
        refine lv_goto (tgt := 14) hx hb dX9_days_51 (by decide) ?_
        have hl : lv_has ls 4 [(3, .int (nI (b + 1))), (2, .int (nI (nxt d (b + 1 - 1)))), (0, .ref h0), (1, .int (nI d))] := by rw [Nat.add_sub_cancel]; exact hl
        exact ih_14 (b + 1) _ ⟨(show 1 ≤ (b + 1) ∧ (b + 1) ≤ 366 from (by omega)), (show ∀ n, 1 ≤ n → n < (b + 1) → ld (dt (nxt d n)) = false from no_s hno (lb_0 c_8)), lv_sub hl [0, 1, 2, 3] rfl⟩ (show 367 - (b + 1) < 367 - b by omega)
      ·
        refine lv_iload_n hx hb dX9_days_46 rfl (lv_at hl 1 rfl) ?_
        exact W.iret (v := (nI b)) hx hb hr (fun t ht hW => ⟨(nI b), rfl, dq_1 (fun e => c_2 (hr_1.trans e)) hd2 ⟨b, rfl, hb1a, lb_1 c_8, hno⟩, ht⟩) t_nil dX9_days_47
    ·
      have nc_4 : nxt d (b - 1) = 365 := (nI_eq (a := nxt d (b - 1)) (b := 365) (by omega) (by omega)).mp c_4
      refine lv_iconst (v := 1) hx hb dX9_days_28 (by decide) ?_
      refine lv_goto (tgt := 35) hx hb dX9_days_29 (by decide) ?_
      refine W.eq (g2 := F0 m 35 ls [.int (nI (nxt d b))]) (congrArg (fun v => F0 m 35 ls [.int v]) (nx_a hd1 hb1a nc_4)) ?_
      refine lv_istore_n (lv' := [(2, .int (nI (nxt d b))), (3, .int (nI b)), (0, .ref h0), (1, .int (nI d))]) hx hb dX9_days_35 rfl hl (by decide) rfl (fun ls hl => ?_)
      refine lv_iload_n hx hb dX9_days_36 rfl (lv_at hl 0 rfl) ?_
      refine vp_callSi (W.runS (As := [.int (nI (nxt d b))]) (rest := []) ⟨hx, hb, hml, hown, hts⟩ (qkX8_figuresOf l dC dI (nxt d b) (by first | omega | exact (nx_le _ _).1) (by first | omega | exact (nx_le _ _).2)) (va_cwS 1 hts qgX9_days__X8_figuresOf_S309 rfl rfl rfl (by decide +kernel) ⟨lel 2 2 rfl, lel 42 42 rfl⟩) ⟨yw_fb, (yw_use hY)⟩ rfl rfl hl.1 rfl (lv_room (Nat.le_of_ble_eq_true rfl)) dX9_days_37 ⟨lel 0 0 rfl, lel 0 0 rfl⟩) (fun r_10 hr_10 => ?_)
      obtain rfl : r_10 = (nI (dt (nxt d b))) := hr_10
      refine vp_callSi (W.runS (As := [.int (nI (dt (nxt d b)))]) (rest := []) ⟨hx, hb, hml, hown, hts⟩ (qkX8_isLuckyDate l dC dI (dt (nxt d b)) (by first | omega | exact dt_lt _ (by have := nx_le d b; omega) | exact dt_lt _ (by omega))) (va_cwS 1 hts qgX9_days__X8_isLuckyDate_S312 rfl rfl rfl (by decide +kernel) ⟨lel 1 2 rfl, lel 22 42 rfl⟩) ⟨pn_fb, pn_use⟩ rfl rfl hl.1 rfl (lv_room (Nat.le_of_ble_eq_true rfl)) dX9_days_40 ⟨lel 0 0 rfl, lel 0 0 rfl⟩) (fun r_11 hr_11 => ?_)
      obtain rfl : r_11 = (lb (dt (nxt d b))) := hr_11
      refine lv_if_eq (tgt := 48) hx hb dX9_days_43 (by decide) (fun c_12 => ?_) (fun c_12 => ?_)
      ·
        obtain ⟨z_13, ez_13⟩ : ∃ y : Int32, y = nI b + 1 := ⟨_, rfl⟩
        refine lv_iinc (v := z_13) (lv' := [(3, .int z_13), (2, .int (nI (nxt d b))), (0, .ref h0), (1, .int (nI d))]) hx hb dX9_days_48 hl (k := 1) rfl (by rw [ez_13]; rfl) (by decide) rfl (fun ls hl => ?_)
        obtain rfl : z_13 = nI (b + 1) := ez_13.trans (nI_add b 1)
        refine lv_goto (tgt := 14) hx hb dX9_days_51 (by decide) ?_
        have hl : lv_has ls 4 [(3, .int (nI (b + 1))), (2, .int (nI (nxt d (b + 1 - 1)))), (0, .ref h0), (1, .int (nI d))] := by rw [Nat.add_sub_cancel]; exact hl
        exact ih_14 (b + 1) _ ⟨(show 1 ≤ (b + 1) ∧ (b + 1) ≤ 366 from (by omega)), (show ∀ n, 1 ≤ n → n < (b + 1) → ld (dt (nxt d n)) = false from no_s hno (lb_0 c_12)), lv_sub hl [0, 1, 2, 3] rfl⟩ (show 367 - (b + 1) < 367 - b by omega)
      ·
        refine lv_iload_n hx hb dX9_days_46 rfl (lv_at hl 1 rfl) ?_
        exact W.iret (v := (nI b)) hx hb hr (fun t ht hW => ⟨(nI b), rfl, dq_1 (fun e => c_2 (hr_1.trans e)) hd2 ⟨b, rfl, hb1a, lb_1 c_12, hno⟩, ht⟩) t_nil dX9_days_47
  ·
    refine lv_bipush (v := (-2)) hx hb dX9_days_7 (by decide) ?_
    exact W.iret (v := (-2)) hx hb hr (fun t ht hW => ⟨(-2), rfl, dq_0 (hr_1.symm.trans c_2), ht⟩) t_nil dX9_days_9
theorem dX9_month_0 : decode cX9_month 0 = .ok (.iload_n 1, 1) := by decide +kernel
theorem dX9_month_1 : decode cX9_month 1 = .ok (.iconst 1, 1) := by decide +kernel
theorem dX9_month_2 : decode cX9_month 2 = .ok (.bipush 12, 2) := by decide +kernel
theorem dX9_month_4 : decode cX9_month 4 = .ok (.invokestatic 158, 3) := by decide +kernel
theorem dX9_month_7 : decode cX9_month 7 = .ok (.ifCond .ne 6, 3) := by decide +kernel
theorem dX9_month_10 : decode cX9_month 10 = .ok (.bipush (-2), 2) := by decide +kernel
theorem dX9_month_12 : decode cX9_month 12 = .ok (.ireturn, 1) := by decide +kernel
theorem dX9_month_13 : decode cX9_month 13 = .ok (.iconst 0, 1) := by decide +kernel
theorem dX9_month_14 : decode cX9_month 14 = .ok (.istore_n 2, 1) := by decide +kernel
theorem dX9_month_15 : decode cX9_month 15 = .ok (.iconst 1, 1) := by decide +kernel
theorem dX9_month_16 : decode cX9_month 16 = .ok (.istore_n 3, 1) := by decide +kernel
theorem dX9_month_17 : decode cX9_month 17 = .ok (.iload_n 3, 1) := by decide +kernel
theorem dX9_month_18 : decode cX9_month 18 = .ok (.iload_n 1, 1) := by decide +kernel
theorem dX9_month_19 : decode cX9_month 19 = .ok (.invokestatic 315, 3) := by decide +kernel
theorem dX9_month_22 : decode cX9_month 22 = .ok (.if_icmp .gt 24, 3) := by decide +kernel
theorem dX9_month_25 : decode cX9_month 25 = .ok (.iload_n 3, 1) := by decide +kernel
theorem dX9_month_26 : decode cX9_month 26 = .ok (.bipush 100, 2) := by decide +kernel
theorem dX9_month_28 : decode cX9_month 28 = .ok (.imul, 1) := by decide +kernel
theorem dX9_month_29 : decode cX9_month 29 = .ok (.iload_n 1, 1) := by decide +kernel
theorem dX9_month_30 : decode cX9_month 30 = .ok (.iadd, 1) := by decide +kernel
theorem dX9_month_31 : decode cX9_month 31 = .ok (.invokestatic 312, 3) := by decide +kernel
theorem dX9_month_34 : decode cX9_month 34 = .ok (.ifCond .eq 6, 3) := by decide +kernel
theorem dX9_month_37 : decode cX9_month 37 = .ok (.iinc 2 1, 3) := by decide +kernel
theorem dX9_month_40 : decode cX9_month 40 = .ok (.iinc 3 1, 3) := by decide +kernel
theorem dX9_month_43 : decode cX9_month 43 = .ok (.goto (-26), 3) := by decide +kernel
theorem dX9_month_46 : decode cX9_month 46 = .ok (.iload_n 2, 1) := by decide +kernel
theorem dX9_month_47 : decode cX9_month 47 = .ok (.ireturn, 1) := by decide +kernel
def quX9_month : List Cond := List.cons (.code yX9_month cX9_month 4 (some .int)) ([.methodLink RX9 158 yX9_isWithin, .static yX9_isWithin, .initialized RX9, .code yX9_isWithin cX9_isWithin 3 (some .boolean), .methodLink RX9 315 yX8_lengthOf, .static yX8_lengthOf, .initialized RX8, .code yX8_lengthOf cX8_lengthOf 1 (some .int), .fieldLink RX8 9 "LuckyTicket$Year" "MONTHS" "[I", .methodLink RX9 312 yX8_isLuckyDate, .static yX8_isLuckyDate, .code yX8_isLuckyDate cX8_isLuckyDate 3 (some .boolean)] : List Cond)
set_option maxRecDepth 20000 in
theorem qgX9_month__X9_isWithin_S158 : GoodIn quX9_month (va_wsS RX9 158 yX9_isWithin quX9_isWithin) := goodIn_p _ [4] rfl (by decide +kernel)
set_option maxRecDepth 20000 in
theorem qgX9_month__X8_lengthOf_S315 : GoodIn quX9_month (va_wsS RX9 315 yX8_lengthOf quX8_lengthOf) := goodIn_p _ [8] rfl (by decide +kernel)
set_option maxRecDepth 20000 in
theorem qgX9_month__X8_isLuckyDate_S312 : GoodIn quX9_month (va_wsS RX9 312 yX8_isLuckyDate quX8_isLuckyDate) := goodIn_p _ [12] rfl (by decide +kernel)
set_option maxHeartbeats 4000000 in
set_option maxRecDepth 100000 in
theorem qkX9_month (l : Launch) (dC : Nat → ClassId) (dI : Nat → Nat → Nat) (h0 : Nat) (a1 : Int32) : Met l yX9_month quX9_month ({ frames := 1, cells := 0, slots := 0, locals := 22 }) (va_Pc [.ref h0, .int a1] (yw)) (vp_Si (fun r => r = mth a1)) 0 0 (fun _ => False) := by
  refine Met.ofW (cc := cX9_month) (maxL := 4) (ret := (some .int)) (by decide) rfl ?_
  intro p e s m args below meth c s₁ B hml hv
  obtain ⟨rfl, hY⟩ := hv
  have hx := B.exec
  have hb := B.bytes
  have hr := B.returns
  have hts := atoms_spec (ws := quX9_month) B.pre
  have hown : s.vm.findClass RX9 = some m.cls := findClass_of_methodNamed B.named
  have hlocks := B.notSynchronized
  obtain ⟨tM, hZ, hT⟩ := id hY
  have hS0 : va_S (fun _ => False) s.heap s.heap [] := va_S.rf
  have hl := lv_entry ([.ref h0, .int a1]) (n := 4) (Nat.le_of_ble_eq_true rfl)
  rw [lg_entry_eq]
  generalize (lg_sl ([.ref h0, .int a1]) ++ List.replicate (4 - (lg_sl ([.ref h0, .int a1])).length) Slot.unset).toArray = ls at hl ⊢
  have hl : lv_has ls 4 [(0, .ref h0), (1, .int a1)] := hl
  refine lv_iload_n hx hb dX9_month_0 rfl (lv_at hl 1 rfl) ?_
  refine lv_iconst (v := 1) hx hb dX9_month_1 (by decide) ?_
  refine lv_bipush (v := 12) hx hb dX9_month_2 (by decide) ?_
  refine vp_callSi (W.runS (As := [.int a1, .int 1, .int 12]) (rest := []) ⟨hx, hb, hml, hown, hts⟩ (qkX9_isWithin l dC dI a1 1 12) (va_cwS 3 hts qgX9_month__X9_isWithin_S158 rfl rfl rfl (by decide +kernel) ⟨lel 1 1 rfl, lel 22 22 rfl⟩) ⟨pn_fb, pn_use⟩ rfl rfl hl.1 rfl (lv_room (Nat.le_of_ble_eq_true rfl)) dX9_month_4 ⟨lel 0 0 rfl, lel 0 0 rfl⟩) (fun r_1 hr_1 => ?_)
  refine lv_if_ne (tgt := 13) hx hb dX9_month_7 (by decide) (fun c_2 => ?_) (fun c_2 => ?_)
  ·
    obtain ⟨mm, hm, rfl⟩ := wi_mo (fun e => c_2 (hr_1.trans e))
    have hmo := mo_le mm hm
    refine lv_iconst (v := 0) hx hb dX9_month_13 (by decide) ?_
    refine lv_istore_n (lv' := [(2, .int 0), (0, .ref h0), (1, .int (nI (mm + 1)))]) hx hb dX9_month_14 rfl hl (by decide) rfl (fun ls hl => ?_)
    refine lv_iconst (v := 1) hx hb dX9_month_15 (by decide) ?_
    refine lv_istore_n (lv' := [(3, .int 1), (2, .int 0), (0, .ref h0), (1, .int (nI (mm + 1)))]) hx hb dX9_month_16 rfl hl (by decide) rfl (fun ls hl => ?_)
    refine loopP (σ := Nat) (fun v => 40 - v) (fun v ls => (v ≤ mo mm) ∧ lv_has ls 4 [(3, .int (nI (v + 1))), (2, .int (nI (mcn (mm + 1) v))), (0, .ref h0), (1, .int (nI (mm + 1)))]) (fun v ls hI ih_17 => ?_) 0 ⟨(show 0 ≤ mo mm from Nat.zero_le _), hl⟩
    obtain ⟨k, rfl⟩ : ∃ z, z = v := ⟨_, rfl⟩
    obtain ⟨hk, hl⟩ := hI
    have hk : k ≤ mo mm := hk
    have hl : lv_has ls 4 [(3, .int (nI (k + 1))), (2, .int (nI (mcn (mm + 1) k))), (0, .ref h0), (1, .int (nI (mm + 1)))] := hl
    refine lv_iload_n hx hb dX9_month_17 rfl (lv_at hl 0 rfl) ?_
    refine lv_iload_n hx hb dX9_month_18 rfl (lv_at hl 3 rfl) ?_
    refine vp_callSi (W.runS (As := [.int (nI (mm + 1))]) (rest := [.int (nI (k + 1))]) ⟨hx, hb, hml, hown, hts⟩ (qkX8_lengthOf l dC dI mm (by omega)) (va_cwS 1 hts qgX9_month__X8_lengthOf_S315 rfl rfl rfl (by decide +kernel) ⟨lel 1 1 rfl, lel 20 22 rfl⟩) ⟨yw_fb, (yw_use hY)⟩ rfl rfl hl.1 rfl (lv_room (Nat.le_of_ble_eq_true rfl)) dX9_month_19 ⟨lel 0 0 rfl, lel 0 0 rfl⟩) (fun r_3 hr_3 => ?_)
    obtain rfl : r_3 = (nI (mo mm)) := hr_3
    refine lv_icmp_gt (tgt := 46) hx hb dX9_month_22 (by decide) (fun c_4 => ?_) (fun c_4 => ?_)
    ·
      have nc_4 : mo mm < k + 1 := (nI_ltI (a := mo mm) (b := k + 1) (by omega) (by omega)).mp c_4
      refine lv_iload_n hx hb dX9_month_46 rfl (lv_at hl 1 rfl) ?_
      exact W.iret (v := (nI (mcn (mm + 1) k))) hx hb hr (fun t ht hW => ⟨(nI (mcn (mm + 1) k)), rfl, mth_1 (fun e => c_2 (hr_1.trans e)) hm (by omega), ht⟩) t_nil dX9_month_47
    ·
      have nc_4 : ¬ mo mm < k + 1 := fun q9 => c_4 ((nI_ltI (a := mo mm) (b := k + 1) (by omega) (by omega)).mpr q9)
      refine lv_iload_n hx hb dX9_month_25 rfl (lv_at hl 0 rfl) ?_
      refine lv_bipush (v := 100) hx hb dX9_month_26 (by decide) ?_
      refine lv_imul hx hb dX9_month_28 ?_
      refine lv_topi (fun z_5 ez_5 => ?_)
      obtain rfl : z_5 = nI ((k + 1) * 100) := ez_5.trans (pk_mul (k + 1) 100)
      refine lv_iload_n hx hb dX9_month_29 rfl (lv_at hl 3 rfl) ?_
      refine lv_iadd hx hb dX9_month_30 ?_
      refine lv_topi (fun z_6 ez_6 => ?_)
      obtain rfl : z_6 = nI (((k + 1) * 100) + (mm + 1)) := ez_6.trans (nI_add ((k + 1) * 100) (mm + 1))
      refine vp_callSi (W.runS (As := [.int (nI (((k + 1) * 100) + (mm + 1)))]) (rest := []) ⟨hx, hb, hml, hown, hts⟩ (qkX8_isLuckyDate l dC dI (((k + 1) * 100) + (mm + 1)) (by first | omega | exact dt_lt _ (by have := nx_le d b; omega) | exact dt_lt _ (by omega))) (va_cwS 1 hts qgX9_month__X8_isLuckyDate_S312 rfl rfl rfl (by decide +kernel) ⟨lel 1 1 rfl, lel 22 22 rfl⟩) ⟨pn_fb, pn_use⟩ rfl rfl hl.1 rfl (lv_room (Nat.le_of_ble_eq_true rfl)) dX9_month_31 ⟨lel 0 0 rfl, lel 0 0 rfl⟩) (fun r_7 hr_7 => ?_)
      obtain rfl : r_7 = (lb (((k + 1) * 100) + (mm + 1))) := hr_7
      refine lv_if_eq (tgt := 40) hx hb dX9_month_34 (by decide) (fun c_8 => ?_) (fun c_8 => ?_)
      ·
        obtain ⟨z_9, ez_9⟩ : ∃ y : Int32, y = nI (k + 1) + 1 := ⟨_, rfl⟩
        refine lv_iinc (v := z_9) (lv' := [(3, .int z_9), (2, .int (nI (mcn (mm + 1) k))), (0, .ref h0), (1, .int (nI (mm + 1)))]) hx hb dX9_month_40 hl (k := 0) rfl (by rw [ez_9]; rfl) (by decide) rfl (fun ls hl => ?_)
        obtain rfl : z_9 = nI ((k + 1) + 1) := ez_9.trans (nI_add (k + 1) 1)
        refine lv_goto (tgt := 17) hx hb dX9_month_43 (by decide) ?_
        have hl : lv_has ls 4 [(3, .int (nI ((k + 1) + 1))), (2, .int (nI (mcn (mm + 1) (k + 1)))), (0, .ref h0), (1, .int (nI (mm + 1)))] := by rw [mc_0 (ld_c (lb_0 c_8))]; exact hl
        exact ih_17 (k + 1) _ ⟨(show (k + 1) ≤ mo mm from (by omega)), lv_sub hl [0, 1, 2, 3] rfl⟩ (show 40 - (k + 1) < 40 - k by omega)
      ·
        obtain ⟨z_10, ez_10⟩ : ∃ y : Int32, y = nI (mcn (mm + 1) k) + 1 := ⟨_, rfl⟩
        refine lv_iinc (v := z_10) (lv' := [(2, .int z_10), (3, .int (nI (k + 1))), (0, .ref h0), (1, .int (nI (mm + 1)))]) hx hb dX9_month_37 hl (k := 1) rfl (by rw [ez_10]; rfl) (by decide) rfl (fun ls hl => ?_)
        obtain rfl : z_10 = nI ((mcn (mm + 1) k) + 1) := ez_10.trans (nI_add (mcn (mm + 1) k) 1)
        obtain ⟨z_11, ez_11⟩ : ∃ y : Int32, y = nI (k + 1) + 1 := ⟨_, rfl⟩
        refine lv_iinc (v := z_11) (lv' := [(3, .int z_11), (2, .int (nI ((mcn (mm + 1) k) + 1))), (0, .ref h0), (1, .int (nI (mm + 1)))]) hx hb dX9_month_40 hl (k := 1) rfl (by rw [ez_11]; rfl) (by decide) rfl (fun ls hl => ?_)
        obtain rfl : z_11 = nI ((k + 1) + 1) := ez_11.trans (nI_add (k + 1) 1)
        refine lv_goto (tgt := 17) hx hb dX9_month_43 (by decide) ?_
        have hl : lv_has ls 4 [(3, .int (nI ((k + 1) + 1))), (2, .int (nI (mcn (mm + 1) (k + 1)))), (0, .ref h0), (1, .int (nI (mm + 1)))] := by rw [mc_1 (ld_c (lb_1 c_8))]; exact hl
        exact ih_17 (k + 1) _ ⟨(show (k + 1) ≤ mo mm from (by omega)), lv_sub hl [0, 1, 2, 3] rfl⟩ (show 40 - (k + 1) < 40 - k by omega)
  ·
    refine lv_bipush (v := (-2)) hx hb dX9_month_10 (by decide) ?_
    exact W.iret (v := (-2)) hx hb hr (fun t ht hW => ⟨(-2), rfl, mth_0 (hr_1.symm.trans c_2), ht⟩) t_nil dX9_month_12
def quX10_isDay : List Cond := List.cons (.code yX10_isDay cX10_isDay 1 (some .boolean)) ([.constantLong RX10 442 (365), .methodLink RX10 82 yX10_in, .static yX10_in, .initialized RX10, .code yX10_in cX10_in 6 (some .boolean)] : List Cond)
set_option maxRecDepth 20000 in
theorem qgX10_isDay__X10_in_S82 : GoodIn quX10_isDay (va_wsS RX10 82 yX10_in quX10_in) := goodIn_p _ [5] rfl (by decide +kernel)
set_option maxHeartbeats 4000000 in
set_option maxRecDepth 100000 in
theorem qkX10_isDay (l : Launch) (dC : Nat → ClassId) (dI : Nat → Nat → Nat) (a1 : Int32) : Met l yX10_isDay quX10_isDay ({ frames := 1, cells := 0, slots := 0, locals := 25 }) (va_Pc [.int a1] (fun _ => True)) (vp_Si (fun r => r = wi a1 1 365)) 0 0 (fun _ => False) := by
  refine Met.ofW (cc := cX10_isDay) (maxL := 1) (ret := (some .boolean)) (by decide) rfl ?_
  intro p e s m args below meth c s₁ B hml hv
  obtain ⟨rfl, _⟩ := hv
  have hx := B.exec
  have hb := B.bytes
  have hr := B.returns
  have hts := atoms_spec (ws := quX10_isDay) B.pre
  have hown : s.vm.findClass RX10 = some m.cls := findClass_of_methodNamed B.named
  have hlocks := B.notSynchronized
  have hl := lv_entry ([.int a1]) (n := 1) (Nat.le_of_ble_eq_true rfl)
  rw [lg_entry_eq]
  generalize (lg_sl ([.int a1]) ++ List.replicate (1 - (lg_sl ([.int a1])).length) Slot.unset).toArray = ls at hl ⊢
  have hl : lv_has ls 1 [(0, .int a1)] := hl
  refine lv_iload_n hx hb dX10_isDay_0 rfl (lv_at hl 0 rfl) ?_
  refine lv_i2l (v := a1.toInt64) hx hb dX10_isDay_1 rfl ?_
  refine lv_lconst (v := 1) hx hb dX10_isDay_2 (by decide) ?_
  refine lv_ldc2 (v := 365) hx hb hown (hts (.constantLong RX10 442 (365)) (List.mem_of_getElem? (i := 1) rfl)) dX10_isDay_3 ?_
  refine vp_callSi (W.runS (As := [.long a1.toInt64, .long 1, .long 365]) (rest := []) ⟨hx, hb, hml, hown, hts⟩ (qkX10_in l dC dI a1.toInt64 1 365) (va_cwS 3 hts qgX10_isDay__X10_in_S82 rfl rfl rfl (by decide +kernel) ⟨lel 1 1 rfl, lel 25 25 rfl⟩) ⟨pn_fb, pn_use⟩ rfl rfl hl.1 rfl (lv_room (Nat.le_of_ble_eq_true rfl)) dX10_isDay_6 ⟨lel 0 0 rfl, lel 0 0 rfl⟩) (fun r_1 hr_1 => ?_)
  exact W.zret (v := r_1) hx hb hr (by rw [hr_1]; exact inr_n _ _ _) (fun t ht hW => ⟨r_1, rfl, hr_1.trans (inr_wi a1 1 365), ht⟩) t_nil dX10_isDay_9
