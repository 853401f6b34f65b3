def MON : List Nat := [31, 28, 31, 30, 31, 30, 31, 31, 30, 31, 30, 31]
def mo (m : Nat) : Nat := MON.getD m 0
theorem mo_le : ∀ m, m < 12 → mo m ≤ 31 := by decide +kernel
def dtL : List Nat → Nat → Nat → Nat
  | [], x, m => x * 100 + m
  | y :: ys, x, m => if x ≤ y then x * 100 + m else dtL ys (x - y) (m + 1)
def dt (d : Nat) : Nat := dtL MON d 1
theorem mo_drop : ∀ m, m < 12 → MON.drop m = mo m :: MON.drop (m + 1) := by decide +kernel
theorem mo_sum : ∀ m, m < 12 → (MON.drop m).sum = mo m + (MON.drop (m + 1)).sum := by decide +kernel
theorem mo_last : ∀ m, m < 12 → 0 < (MON.drop (m + 1)).sum → m + 1 < 12 := by decide +kernel
theorem mo_12 : (MON.drop 11).sum = mo 11 := by decide +kernel
theorem dt_step {m x : Nat} (hm : m < 12) (hx : ¬ x ≤ mo m) : dtL (MON.drop m) x (m + 1) = dtL (MON.drop (m + 1)) (x - mo m) (m + 1 + 1) := by
  rw [mo_drop m hm]; simp only [dtL]; rw [if_neg hx]
theorem dt_end {m x : Nat} (hm : m < 12) (hx : x ≤ mo m) : dtL (MON.drop m) x (m + 1) = x * 100 + (m + 1) := by
  rw [mo_drop m hm]; simp only [dtL]; rw [if_pos hx]
theorem dt_lt : ∀ d, d < 366 → dt d < 10000 := by decide +kernel
def ld (k : Nat) : Bool := k / 1000 + k / 100 % 10 == k / 10 % 10 + k % 10
def lb (k : Nat) : Int32 := if ld k = true then 1 else 0
theorem lb_t {k : Nat} (h : k / 1000 + k / 100 % 10 = k / 10 % 10 + k % 10) : (1 : Int32) = lb k := (if_pos (by simp [ld, h])).symm
theorem lb_f {k : Nat} (h : ¬ (k / 1000 + k / 100 % 10 = k / 10 % 10 + k % 10)) : (0 : Int32) = lb k := (if_neg (by simp [ld, h])).symm
theorem lb_0 {k : Nat} (h : lb k = 0) : ld k = false := by
  cases e : ld k
  · rfl
  · unfold lb at h; rw [if_pos e] at h; exact absurd h (by decide)
theorem lb_1 {k : Nat} (h : ¬ lb k = 0) : ld k = true := by
  cases e : ld k
  · exact absurd (show lb k = 0 by unfold lb; rw [e]; rfl) h
  · rfl
theorem lb_n (k : Nat) : narrow .boolean (.int (lb k)) = .int (lb k) := by
  unfold lb; split <;> rfl
theorem ld_x (k : Nat) : (k / 100 / 10 + k / 100 % 10 = k % 100 / 10 + k % 100 % 10) ↔ (k / 1000 + k / 100 % 10 = k / 10 % 10 + k % 10) := by
  rw [Nat.div_div_eq_div_mul, show k % 100 / 10 = k / 10 % 10 from Nat.mod_mul_right_div_self k 10 10, Nat.mod_mod_of_dvd k (show 10 ∣ 100 by decide)]
def moV : Nat → Value := fun j => .int (nI (mo j))
def yw (U : State) : Prop := ∃ t, va_Z "LuckyTicket$Year" "MONTHS" "[I" (.ref t) (fun _ => False) U U.heap ∧ va_T .int t 12 moV (fun _ => False) U U.heap
theorem yw_fb {av : List Value} : FrameBlind (va_Pc av yw) := fun a U g mk q => by
  obtain ⟨q0, t, qZ, qT⟩ := q
  exact ⟨q0, t, va_Z.moved (u := U) (U := U.calling g mk a) (Vm.Alike.refl U.vm) qZ, va_T.moved (u := U) (U := U.calling g mk a) (Vm.Alike.refl U.vm) qT⟩
theorem yw_use {av : List Value} {s : State} (h : yw s) : ∀ U : State, U.heap = s.heap → s.WarmedH U.vm → va_Pc av yw av.toArray U := fun U hU hW => by
  obtain ⟨t, qZ, qT⟩ := h
  exact ⟨rfl, t, by rw [hU]; exact va_Z.moved hW.alike qZ, by rw [hU]; exact va_T.moved hW.alike qT⟩
theorem wi_rg {a : Int32} {lo hi : Int32} {k : Nat} (hk : hi.toInt = k) (hl : lo.toInt = 1) (h : ¬ wi a lo hi = 0) : ∃ d : Nat, 1 ≤ d ∧ d ≤ k ∧ a = nI d := by
  have q := wi_yes h
  have q1 := Int32.le_iff_toInt_le.mp q.1
  have z : (0 : Int32).toInt = 0 := by decide
  have hn : ¬ a < 0 := fun c => by have := Int32.lt_iff_toInt_lt.mp c; omega
  obtain ⟨j, hj, rfl⟩ := nI_of2 hk hn q.2
  refine ⟨j, ?_, hj, rfl⟩
  rcases Nat.eq_zero_or_pos j with e | e
  · subst e; rw [hl, nI_0] at q1; exact absurd q1 (by decide)
  · exact e
def dte (a : Int32) : Int32 := if wi a 1 365 = 0 then -2 else nI (dt a.toNatClampNeg)
theorem dte_0 {a : Int32} (h : wi a 1 365 = 0) : (-2 : Int32) = dte a := (if_pos h).symm
theorem dte_1 {d : Nat} (h : ¬ wi (nI d) 1 365 = 0) (h2 : d ≤ 365) : nI (dt d) = dte (nI d) := by
  unfold dte; rw [if_neg h, nI_clamp (by omega)]
def nxt (d n : Nat) : Nat := (d - 1 + n) % 365 + 1
def dpo (d : Nat) (r : Int32) : Prop := ∃ b, r = nI b ∧ 1 ≤ b ∧ ld (dt (nxt d b)) = true ∧ ∀ n, 1 ≤ n → n < b → ld (dt (nxt d n)) = false
def dq (a : Int32) (r : Int32) : Prop := if wi a 1 365 = 0 then r = -2 else dpo a.toNatClampNeg r
theorem dq_0 {a : Int32} (h : wi a 1 365 = 0) : dq a (-2) := by unfold dq; rw [if_pos h]
theorem dq_1 {d : Nat} {r : Int32} (h : ¬ wi (nI d) 1 365 = 0) (h2 : d ≤ 365) (q : dpo d r) : dq (nI d) r := by
  unfold dq; rw [if_neg h, nI_clamp (by omega)]; exact q
theorem dq_one {a r1 r2 : Int32} (h1 : dq a r1) (h2 : dq a r2) : r1 = r2 := by
  unfold dq at h1 h2
  by_cases c : wi a 1 365 = 0
  · rw [if_pos c] at h1 h2; rw [h1, h2]
  · rw [if_neg c] at h1 h2
    obtain ⟨b, rfl, p1, p2, p3⟩ := h1
    obtain ⟨b', rfl, q1, q2, q3⟩ := h2
    rcases Nat.lt_trichotomy b b' with e | e | e
    · exact absurd p2 (by rw [q3 b p1 e]; decide)
    · rw [e]
    · exact absurd q2 (by rw [p3 b' q1 e]; decide)
theorem day_no {d b : Nat} (h1 : 1 ≤ d) (h2 : d ≤ 365) (hb : 366 ≤ b) (h : ∀ n, 1 ≤ n → n < b → ld (dt (nxt d n)) = false) : False := by
  have q := h (366 - d) (by omega) (by omega)
  have e : nxt d (366 - d) = 1 := by unfold nxt; omega
  rw [e] at q
  exact absurd q (by decide +kernel)
theorem nx_a {d b : Nat} (hd : 1 ≤ d) (hb : 1 ≤ b) (h : nxt d (b - 1) = 365) : (1 : Int32) = nI (nxt d b) := by
  have e : nxt d b = 1 := by unfold nxt at *; omega
  rw [e]; rfl
theorem nx_b {d b : Nat} (hd : 1 ≤ d) (hb : 1 ≤ b) (h : ¬ nxt d (b - 1) = 365) : nI (nxt d (b - 1) + 1) = nI (nxt d b) := by
  have e : nxt d b = nxt d (b - 1) + 1 := by unfold nxt at *; omega
  rw [e]
theorem nx_le (d n : Nat) : 1 ≤ nxt d n ∧ nxt d n ≤ 365 := by unfold nxt; omega
theorem nx_0 {d : Nat} (h1 : 1 ≤ d) (h2 : d ≤ 365) : nxt d 0 = d := by unfold nxt; omega
theorem no_s {d b : Nat} (h : ∀ n, 1 ≤ n → n < b → ld (dt (nxt d n)) = false) (hb : ld (dt (nxt d b)) = false) : ∀ n, 1 ≤ n → n < b + 1 → ld (dt (nxt d n)) = false := fun n h1 h2 => by
  rcases Nat.lt_or_ge n b with q | q
  · exact h n h1 q
  · have e : n = b := by omega
    rw [e]; exact hb
def mcn (m : Nat) : Nat → Nat
  | 0 => 0
  | k + 1 => mcn m k + (if ld (100 * (k + 1) + m) = true then 1 else 0)
theorem mc_0 {m k : Nat} (h : ld (100 * (k + 1) + m) = false) : mcn m (k + 1) = mcn m k := by simp [mcn, h]
theorem mc_1 {m k : Nat} (h : ld (100 * (k + 1) + m) = true) : mcn m (k + 1) = mcn m k + 1 := by simp [mcn, h]
def mth (a : Int32) : Int32 := if wi a 1 12 = 0 then -2 else nI (mcn a.toNatClampNeg (mo (a.toNatClampNeg - 1)))
theorem mth_0 {a : Int32} (h : wi a 1 12 = 0) : (-2 : Int32) = mth a := (if_pos h).symm
theorem mth_1 {m k : Nat} (h : ¬ wi (nI (m + 1)) 1 12 = 0) (hm : m < 12) (hk : k = mo m) : nI (mcn (m + 1) k) = mth (nI (m + 1)) := by
  unfold mth; rw [if_neg h, nI_clamp (by omega), hk]; rfl
theorem wi_mo {a : Int32} (h : ¬ wi a 1 12 = 0) : ∃ m : Nat, m < 12 ∧ a = nI (m + 1) := by
  obtain ⟨d, h1, h2, rfl⟩ := wi_rg (k := 12) (by decide) (by decide) h
  exact ⟨d - 1, by omega, by rw [show d - 1 + 1 = d by omega]⟩
theorem mo_tot : ∀ m, m < 12 → (MON.drop m).sum ≤ 365 := by decide +kernel
theorem ld_c {k m : Nat} {v : Bool} (h : ld ((k + 1) * 100 + (m + 1)) = v) : ld (100 * (k + 1) + (m + 1)) = v := by rw [Nat.mul_comm]; exact h
theorem dX8_hasDay_0 : decode cX8_hasDay 0 = .ok (.iload_n 0, 1) := by decide +kernel
theorem dX8_hasDay_1 : decode cX8_hasDay 1 = .ok (.iconst 1, 1) := by decide +kernel
theorem dX8_hasDay_2 : decode cX8_hasDay 2 = .ok (.if_icmp .lt 14, 3) := by decide +kernel
theorem dX8_hasDay_5 : decode cX8_hasDay 5 = .ok (.iload_n 0, 1) := by decide +kernel
theorem dX8_hasDay_6 : decode cX8_hasDay 6 = .ok (.sipush 365, 3) := by decide +kernel
theorem dX8_hasDay_9 : decode cX8_hasDay 9 = .ok (.if_icmp .gt 7, 3) := by decide +kernel
theorem dX8_hasDay_12 : decode cX8_hasDay 12 = .ok (.iconst 1, 1) := by decide +kernel
theorem dX8_hasDay_13 : decode cX8_hasDay 13 = .ok (.goto 4, 3) := by decide +kernel
theorem dX8_hasDay_16 : decode cX8_hasDay 16 = .ok (.iconst 0, 1) := by decide +kernel
theorem dX8_hasDay_17 : decode cX8_hasDay 17 = .ok (.ireturn, 1) := by decide +kernel
def uX8_hasDay : List Cond := .code yX8_hasDay cX8_hasDay 1 (some .boolean) :: ([])
set_option maxHeartbeats 4000000 in
set_option maxRecDepth 100000 in
theorem kX8_hasDay (l : Launch) (dC : Nat → ClassId) (dI : Nat → Nat → Nat) (a1 : Int32) : Met l yX8_hasDay uX8_hasDay ({ frames := 0, cells := 0, slots := 0, locals := 0 }) (va_Pc [.int a1] (fun _ => True)) (vp_Si (fun r => r = wi a1 1 365)) 0 0 (fun _ => False) := by
  refine Met.ofW (cc := cX8_hasDay) (maxL := 1) (ret := (some .boolean)) (by decide) rfl ?_
  intro p e s m args below meth c s₁ B hml hv
  obtain ⟨rfl, _⟩ := hv
  have hx := B.exec
  have hb := B.bytes
  have hr := B.returns
  have hts := atoms_spec (ws := uX8_hasDay) B.pre
  have hown : s.vm.findClass RX8 = some m.cls := findClass_of_methodNamed B.named
  have hlocks := B.notSynchronized
  have hl := lv_entry ([.int a1]) (n := 1) (Nat.le_of_ble_eq_true rfl)
  rw [lg_entry_eq]
  generalize (lg_sl ([.int a1]) ++ List.replicate (1 - (lg_sl ([.int a1])).length) Slot.unset).toArray = ls at hl ⊢
  have hl : lv_has ls 1 [(0, .int a1)] := hl
  refine lv_iload_n hx hb dX8_hasDay_0 rfl (lv_at hl 0 rfl) ?_
  refine lv_iconst (v := 1) hx hb dX8_hasDay_1 (by decide) ?_
  refine lv_icmp_lt (tgt := 16) hx hb dX8_hasDay_2 (by decide) (fun c_1 => ?_) (fun c_1 => ?_)
  ·
    refine lv_iconst (v := 0) hx hb dX8_hasDay_16 (by decide) ?_
    exact W.zret (v := 0) hx hb hr rfl (fun t ht hW => ⟨0, rfl, wi_a c_1, ht⟩) t_nil dX8_hasDay_17
  ·
    refine lv_iload_n hx hb dX8_hasDay_5 rfl (lv_at hl 0 rfl) ?_
    refine lv_sipush (v := 365) hx hb dX8_hasDay_6 (by decide) ?_
    refine lv_icmp_gt (tgt := 16) hx hb dX8_hasDay_9 (by decide) (fun c_2 => ?_) (fun c_2 => ?_)
    ·
      refine lv_iconst (v := 0) hx hb dX8_hasDay_16 (by decide) ?_
      exact W.zret (v := 0) hx hb hr rfl (fun t ht hW => ⟨0, rfl, wi_b c_2, ht⟩) t_nil dX8_hasDay_17
    ·
      refine lv_iconst (v := 1) hx hb dX8_hasDay_12 (by decide) ?_
      refine lv_goto (tgt := 17) hx hb dX8_hasDay_13 (by decide) ?_
      exact W.zret (v := 1) hx hb hr rfl (fun t ht hW => ⟨1, rfl, wi_1 c_1 c_2, ht⟩) t_nil dX8_hasDay_17
theorem dX8_lengthOf_0 : decode cX8_lengthOf 0 = .ok (.iload_n 0, 1) := by decide +kernel
theorem dX8_lengthOf_1 : decode cX8_lengthOf 1 = .ok (.iconst 1, 1) := by decide +kernel
theorem dX8_lengthOf_2 : decode cX8_lengthOf 2 = .ok (.if_icmp .lt 21, 3) := by decide +kernel
theorem dX8_lengthOf_5 : decode cX8_lengthOf 5 = .ok (.iload_n 0, 1) := by decide +kernel
theorem dX8_lengthOf_6 : decode cX8_lengthOf 6 = .ok (.getstatic 9, 3) := by decide +kernel
theorem dX8_lengthOf_9 : decode cX8_lengthOf 9 = .ok (.arraylength, 1) := by decide +kernel
theorem dX8_lengthOf_10 : decode cX8_lengthOf 10 = .ok (.if_icmp .gt 13, 3) := by decide +kernel
theorem dX8_lengthOf_13 : decode cX8_lengthOf 13 = .ok (.getstatic 9, 3) := by decide +kernel
theorem dX8_lengthOf_16 : decode cX8_lengthOf 16 = .ok (.iload_n 0, 1) := by decide +kernel
theorem dX8_lengthOf_17 : decode cX8_lengthOf 17 = .ok (.iconst 1, 1) := by decide +kernel
theorem dX8_lengthOf_18 : decode cX8_lengthOf 18 = .ok (.isub, 1) := by decide +kernel
theorem dX8_lengthOf_19 : decode cX8_lengthOf 19 = .ok (.iaload, 1) := by decide +kernel
theorem dX8_lengthOf_20 : decode cX8_lengthOf 20 = .ok (.goto 4, 3) := by decide +kernel
theorem dX8_lengthOf_24 : decode cX8_lengthOf 24 = .ok (.ireturn, 1) := by decide +kernel
def uX8_lengthOf : List Cond := .code yX8_lengthOf cX8_lengthOf 1 (some .int) :: ([.fieldLink RX8 9 "LuckyTicket$Year" "MONTHS" "[I"])
set_option maxHeartbeats 4000000 in
set_option maxRecDepth 100000 in
theorem kX8_lengthOf (l : Launch) (dC : Nat → ClassId) (dI : Nat → Nat → Nat) (mm : Nat) (hm : mm < 12) : Met l yX8_lengthOf uX8_lengthOf ({ frames := 0, cells := 0, slots := 0, locals := 0 }) (va_Pc [.int (nI (mm + 1))] (yw)) (vp_Si (fun r => r = nI (mo mm))) 0 0 (fun _ => False) := by
  refine Met.ofW (cc := cX8_lengthOf) (maxL := 1) (ret := (some .int)) (by decide) rfl ?_
  intro p e s m args below meth c s₁ B hml hv
  obtain ⟨rfl, hY⟩ := hv
  have hx := B.exec
  have hb := B.bytes
  have hr := B.returns
  have hts := atoms_spec (ws := uX8_lengthOf) B.pre
  have hown : s.vm.findClass RX8 = some m.cls := findClass_of_methodNamed B.named
  have hlocks := B.notSynchronized
  obtain ⟨tM, hZ, hT⟩ := id hY
  have hS0 : va_S (fun _ => False) s.heap s.heap [] := va_S.rf
  have hl := lv_entry ([.int (nI (mm + 1))]) (n := 1) (Nat.le_of_ble_eq_true rfl)
  rw [lg_entry_eq]
  generalize (lg_sl ([.int (nI (mm + 1))]) ++ List.replicate (1 - (lg_sl ([.int (nI (mm + 1))])).length) Slot.unset).toArray = ls at hl ⊢
  have hl : lv_has ls 1 [(0, .int (nI (mm + 1)))] := hl
  refine lv_iload_n hx hb dX8_lengthOf_0 rfl (lv_at hl 0 rfl) ?_
  refine lv_iconst (v := 1) hx hb dX8_lengthOf_1 (by decide) ?_
  refine lv_icmp_lt (tgt := 23) hx hb dX8_lengthOf_2 (by decide) (fun c_1 => absurd (show mm + 1 < 1 from (nI_ltI (a := mm + 1) (b := 1) (by omega) (by omega)).mp c_1) (by omega)) (fun c_1 => ?_)
  refine lv_iload_n hx hb dX8_lengthOf_5 rfl (lv_at hl 0 rfl) ?_
  refine va_gets hx hb hZ hS0 hown (hts (.fieldLink RX8 9 "LuckyTicket$Year" "MONTHS" "[I") (List.mem_of_getElem? (i := 1) rfl)) (fun _ h9 => h9) dX8_lengthOf_6 ?_
  refine va_tlen (v := 12) hx hb hT hS0 (by rfl) dX8_lengthOf_9 ?_
  refine lv_icmp_gt (tgt := 23) hx hb dX8_lengthOf_10 (by decide) (fun c_2 => absurd (show 12 < mm + 1 from (nI_ltI (a := 12) (b := mm + 1) (by omega) (by omega)).mp c_2) (by omega)) (fun c_2 => ?_)
  refine va_gets hx hb hZ hS0 hown (hts (.fieldLink RX8 9 "LuckyTicket$Year" "MONTHS" "[I") (List.mem_of_getElem? (i := 1) rfl)) (fun _ h9 => h9) dX8_lengthOf_13 ?_
  refine lv_iload_n hx hb dX8_lengthOf_16 rfl (lv_at hl 0 rfl) ?_
  refine lv_iconst (v := 1) hx hb dX8_lengthOf_17 (by decide) ?_
  refine lv_isub hx hb dX8_lengthOf_18 ?_
  refine lv_topi (fun z_3 ez_3 => ?_)
  obtain rfl : z_3 = nI ((mm + 1) - 1) := ez_3.trans (pk_sub (a := mm + 1) (b := 1) (by omega))
  rw [show mm + 1 - 1 = mm from rfl]
  refine va_ti (v := .int (nI (mo mm))) hx hb hT hS0 (vp_in_nI (n := mm) (by omega) (by decide)) (by rw [nI_clamp (by omega)]; rfl) dX8_lengthOf_19 ?_
  refine lv_goto (tgt := 24) hx hb dX8_lengthOf_20 (by decide) ?_
  exact W.iret (v := (nI (mo mm))) hx hb hr (fun t ht hW => ⟨(nI (mo mm)), rfl, rfl, ht⟩) t_nil dX8_lengthOf_24
theorem dX8_figuresOf_0 : decode cX8_figuresOf 0 = .ok (.iload_n 0, 1) := by decide +kernel
theorem dX8_figuresOf_1 : decode cX8_figuresOf 1 = .ok (.istore_n 1, 1) := by decide +kernel
theorem dX8_figuresOf_2 : decode cX8_figuresOf 2 = .ok (.iconst 1, 1) := by decide +kernel
theorem dX8_figuresOf_3 : decode cX8_figuresOf 3 = .ok (.istore_n 2, 1) := by decide +kernel
theorem dX8_figuresOf_4 : decode cX8_figuresOf 4 = .ok (.iload_n 2, 1) := by decide +kernel
theorem dX8_figuresOf_5 : decode cX8_figuresOf 5 = .ok (.getstatic 9, 3) := by decide +kernel
theorem dX8_figuresOf_8 : decode cX8_figuresOf 8 = .ok (.arraylength, 1) := by decide +kernel
theorem dX8_figuresOf_9 : decode cX8_figuresOf 9 = .ok (.if_icmp .ge 24, 3) := by decide +kernel
theorem dX8_figuresOf_12 : decode cX8_figuresOf 12 = .ok (.iload_n 1, 1) := by decide +kernel
theorem dX8_figuresOf_13 : decode cX8_figuresOf 13 = .ok (.iload_n 2, 1) := by decide +kernel
theorem dX8_figuresOf_14 : decode cX8_figuresOf 14 = .ok (.invokestatic 13, 3) := by decide +kernel
theorem dX8_figuresOf_17 : decode cX8_figuresOf 17 = .ok (.if_icmp .le 16, 3) := by decide +kernel
theorem dX8_figuresOf_20 : decode cX8_figuresOf 20 = .ok (.iload_n 1, 1) := by decide +kernel
theorem dX8_figuresOf_21 : decode cX8_figuresOf 21 = .ok (.iload_n 2, 1) := by decide +kernel
theorem dX8_figuresOf_22 : decode cX8_figuresOf 22 = .ok (.invokestatic 13, 3) := by decide +kernel
theorem dX8_figuresOf_25 : decode cX8_figuresOf 25 = .ok (.isub, 1) := by decide +kernel
theorem dX8_figuresOf_26 : decode cX8_figuresOf 26 = .ok (.istore_n 1, 1) := by decide +kernel
theorem dX8_figuresOf_27 : decode cX8_figuresOf 27 = .ok (.iinc 2 1, 3) := by decide +kernel
theorem dX8_figuresOf_30 : decode cX8_figuresOf 30 = .ok (.goto (-26), 3) := by decide +kernel
theorem dX8_figuresOf_33 : decode cX8_figuresOf 33 = .ok (.iload_n 1, 1) := by decide +kernel
theorem dX8_figuresOf_34 : decode cX8_figuresOf 34 = .ok (.bipush 100, 2) := by decide +kernel
theorem dX8_figuresOf_36 : decode cX8_figuresOf 36 = .ok (.imul, 1) := by decide +kernel
theorem dX8_figuresOf_37 : decode cX8_figuresOf 37 = .ok (.iload_n 2, 1) := by decide +kernel
theorem dX8_figuresOf_38 : decode cX8_figuresOf 38 = .ok (.iadd, 1) := by decide +kernel
theorem dX8_figuresOf_39 : decode cX8_figuresOf 39 = .ok (.ireturn, 1) := by decide +kernel
def uX8_figuresOf : List Cond := .code yX8_figuresOf cX8_figuresOf 3 (some .int) :: ([.fieldLink RX8 9 "LuckyTicket$Year" "MONTHS" "[I", .methodLink RX8 13 yX8_lengthOf, .static yX8_lengthOf, .initialized RX8, .code yX8_lengthOf cX8_lengthOf 1 (some .int)])
set_option maxRecDepth 20000 in
theorem gX8_figuresOf__X8_lengthOf_S13 : GoodIn uX8_figuresOf (va_wsS RX8 13 yX8_lengthOf uX8_lengthOf) := goodIn_p _ [5] rfl (by decide +kernel)
set_option maxHeartbeats 4000000 in
set_option maxRecDepth 100000 in
theorem kX8_figuresOf (l : Launch) (dC : Nat → ClassId) (dI : Nat → Nat → Nat) (d : Nat) (hd1 : 1 ≤ d) (hd2 : d ≤ 365) : Met l yX8_figuresOf uX8_figuresOf ({ frames := 1, cells := 0, slots := 0, locals := 20 }) (va_Pc [.int (nI d)] (yw)) (vp_Si (fun r => r = nI (dt d))) 0 0 (fun _ => False) := by
  refine Met.ofW (cc := cX8_figuresOf) (maxL := 3) (ret := (some .int)) (by decide) rfl ?_
  intro p e s m args below meth c s₁ B hml hv
  obtain ⟨rfl, hY⟩ := hv
  have hx := B.exec
  have hb := B.bytes
  have hr := B.returns
  have hts := atoms_spec (ws := uX8_figuresOf) B.pre
  have hown : s.vm.findClass RX8 = some m.cls := findClass_of_methodNamed B.named
  have hlocks := B.notSynchronized
  obtain ⟨tM, hZ, hT⟩ := id hY
  have hS0 : va_S (fun _ => False) s.heap s.heap [] := va_S.rf
  have hl := lv_entry ([.int (nI d)]) (n := 3) (Nat.le_of_ble_eq_true rfl)
  rw [lg_entry_eq]
  generalize (lg_sl ([.int (nI d)]) ++ List.replicate (3 - (lg_sl ([.int (nI d)])).length) Slot.unset).toArray = ls at hl ⊢
  have hl : lv_has ls 3 [(0, .int (nI d))] := hl
  refine lv_iload_n hx hb dX8_figuresOf_0 rfl (lv_at hl 0 rfl) ?_
  refine lv_istore_n (lv' := [(1, .int (nI d)), (0, .int (nI d))]) hx hb dX8_figuresOf_1 rfl hl (by decide) rfl (fun ls hl => ?_)
  refine lv_iconst (v := 1) hx hb dX8_figuresOf_2 (by decide) ?_
  refine lv_istore_n (lv' := [(2, .int 1), (1, .int (nI d)), (0, .int (nI d))]) hx hb dX8_figuresOf_3 rfl hl (by decide) rfl (fun ls hl => ?_)
  refine loopP (σ := Nat × Nat) (fun v => 12 - v.2) (fun v ls => (1 ≤ v.1) ∧ (v.2 < 12) ∧ (dtL (MON.drop v.2) v.1 (v.2 + 1) = dt d) ∧ (v.1 ≤ (MON.drop v.2).sum) ∧ lv_has ls 3 [(2, .int (nI (v.2 + 1))), (1, .int (nI v.1)), (0, .int (nI d))]) (fun v ls hI ih => ?_) (d, 0) ⟨(show 1 ≤ d from hd1), (show 0 < 12 from (by decide)), (show dtL (MON.drop 0) d (0 + 1) = dt d from rfl), (show d ≤ (MON.drop 0).sum from hd2), hl⟩
  obtain ⟨x, mm⟩ := v
  obtain ⟨hx1, hm, hdt, hsm, hl⟩ := hI
  have hx1 : 1 ≤ x := hx1
  have hm : mm < 12 := hm
  have hdt : dtL (MON.drop mm) x (mm + 1) = dt d := hdt
  have hsm : x ≤ (MON.drop mm).sum := hsm
  have hl : lv_has ls 3 [(2, .int (nI (mm + 1))), (1, .int (nI x)), (0, .int (nI d))] := hl
  have hmo := mo_le mm hm
  have hms := mo_sum mm hm
  have hx9 : x < 2 ^ 31 := Nat.lt_of_le_of_lt hsm (by have := mo_tot mm hm; omega)
  refine lv_iload_n hx hb dX8_figuresOf_4 rfl (lv_at hl 0 rfl) ?_
  refine va_gets hx hb hZ hS0 hown (hts (.fieldLink RX8 9 "LuckyTicket$Year" "MONTHS" "[I") (List.mem_of_getElem? (i := 1) rfl)) (fun _ h9 => h9) dX8_figuresOf_5 ?_
  refine va_tlen (v := 12) hx hb hT hS0 (by rfl) dX8_figuresOf_8 ?_
  refine lv_icmp_ge (tgt := 33) hx hb dX8_figuresOf_9 (by decide) (fun c_1 => ?_) (fun c_1 => ?_)
  ·
    have nc_1 : 12 ≤ mm + 1 := (nI_leI (a := 12) (b := mm + 1) (by omega) (by omega)).mp c_1
    refine lv_iload_n hx hb dX8_figuresOf_33 rfl (lv_at hl 1 rfl) ?_
    refine lv_bipush (v := 100) hx hb dX8_figuresOf_34 (by decide) ?_
    refine lv_imul hx hb dX8_figuresOf_36 ?_
    refine lv_topi (fun z_2 ez_2 => ?_)
    obtain rfl : z_2 = nI (x * 100) := ez_2.trans (pk_mul x 100)
    refine lv_iload_n hx hb dX8_figuresOf_37 rfl (lv_at hl 0 rfl) ?_
    refine lv_iadd hx hb dX8_figuresOf_38 ?_
    refine lv_topi (fun z_3 ez_3 => ?_)
    obtain rfl : z_3 = nI ((x * 100) + (mm + 1)) := ez_3.trans (nI_add (x * 100) (mm + 1))
    exact W.iret (v := (nI ((x * 100) + (mm + 1)))) hx hb hr (fun t ht hW => ⟨(nI ((x * 100) + (mm + 1))), rfl, (by rw [← hdt, dt_end hm (by first | omega | (have e9 : mm = 11 := by omega) <;> (subst e9; have := mo_12; omega))]), ht⟩) t_nil dX8_figuresOf_39
  ·
    have nc_1 : ¬ 12 ≤ mm + 1 := fun q => c_1 ((nI_leI (a := 12) (b := mm + 1) (by omega) (by omega)).mpr q)
    refine lv_iload_n hx hb dX8_figuresOf_12 rfl (lv_at hl 1 rfl) ?_
    refine lv_iload_n hx hb dX8_figuresOf_13 rfl (lv_at hl 0 rfl) ?_
    refine vp_callSi (W.runS (As := [.int (nI (mm + 1))]) (rest := [.int (nI x)]) ⟨hx, hb, hml, hown, hts⟩ (kX8_lengthOf l dC dI mm (by omega)) (va_cwS 1 hts gX8_figuresOf__X8_lengthOf_S13 rfl rfl rfl (by decide +kernel) ⟨lel 1 1 rfl, lel 20 20 rfl⟩) ⟨yw_fb, (yw_use hY)⟩ rfl rfl hl.1 rfl (lv_room (Nat.le_of_ble_eq_true rfl)) dX8_figuresOf_14 ⟨lel 0 0 rfl, lel 0 0 rfl⟩) (fun r_4 hr_4 => ?_)
    obtain rfl : r_4 = (nI (mo mm)) := hr_4
    refine lv_icmp_le (tgt := 33) hx hb dX8_figuresOf_17 (by decide) (fun c_5 => ?_) (fun c_5 => ?_)
    ·
      have nc_5 : x ≤ mo mm := (nI_leI (a := x) (b := mo mm) (by omega) (by omega)).mp c_5
      refine lv_iload_n hx hb dX8_figuresOf_33 rfl (lv_at hl 1 rfl) ?_
      refine lv_bipush (v := 100) hx hb dX8_figuresOf_34 (by decide) ?_
      refine lv_imul hx hb dX8_figuresOf_36 ?_
      refine lv_topi (fun z_6 ez_6 => ?_)
      obtain rfl : z_6 = nI (x * 100) := ez_6.trans (pk_mul x 100)
      refine lv_iload_n hx hb dX8_figuresOf_37 rfl (lv_at hl 0 rfl) ?_
      refine lv_iadd hx hb dX8_figuresOf_38 ?_
      refine lv_topi (fun z_7 ez_7 => ?_)
      obtain rfl : z_7 = nI ((x * 100) + (mm + 1)) := ez_7.trans (nI_add (x * 100) (mm + 1))
      exact W.iret (v := (nI ((x * 100) + (mm + 1)))) hx hb hr (fun t ht hW => ⟨(nI ((x * 100) + (mm + 1))), rfl, (by rw [← hdt, dt_end hm (by first | omega | (have e9 : mm = 11 := by omega) <;> (subst e9; have := mo_12; omega))]), ht⟩) t_nil dX8_figuresOf_39
    ·
      have nc_5 : ¬ x ≤ mo mm := fun q => c_5 ((nI_leI (a := x) (b := mo mm) (by omega) (by omega)).mpr q)
      refine lv_iload_n hx hb dX8_figuresOf_20 rfl (lv_at hl 1 rfl) ?_
      refine lv_iload_n hx hb dX8_figuresOf_21 rfl (lv_at hl 0 rfl) ?_
      refine vp_callSi (W.runS (As := [.int (nI (mm + 1))]) (rest := [.int (nI x)]) ⟨hx, hb, hml, hown, hts⟩ (kX8_lengthOf l dC dI mm (by omega)) (va_cwS 1 hts gX8_figuresOf__X8_lengthOf_S13 rfl rfl rfl (by decide +kernel) ⟨lel 1 1 rfl, lel 20 20 rfl⟩) ⟨yw_fb, (yw_use hY)⟩ rfl rfl hl.1 rfl (lv_room (Nat.le_of_ble_eq_true rfl)) dX8_figuresOf_22 ⟨lel 0 0 rfl, lel 0 0 rfl⟩) (fun r_8 hr_8 => ?_)
      obtain rfl : r_8 = (nI (mo mm)) := hr_8
      refine lv_isub hx hb dX8_figuresOf_25 ?_
      refine lv_topi (fun z_9 ez_9 => ?_)
      obtain rfl : z_9 = nI (x - (mo mm)) := ez_9.trans (pk_sub (a := x) (b := mo mm) (by omega))
      refine lv_istore_n (lv' := [(1, .int (nI (x - (mo mm)))), (2, .int (nI (mm + 1))), (0, .int (nI d))]) hx hb dX8_figuresOf_26 rfl hl (by decide) rfl (fun ls hl => ?_)
      obtain ⟨z_10, ez_10⟩ : ∃ y : Int32, y = nI (mm + 1) + 1 := ⟨_, rfl⟩
      refine lv_iinc (v := z_10) (lv' := [(2, .int z_10), (1, .int (nI (x - (mo mm)))), (0, .int (nI d))]) hx hb dX8_figuresOf_27 hl (k := 1) rfl (by rw [ez_10]; rfl) (by decide) rfl (fun ls hl => ?_)
      obtain rfl : z_10 = nI ((mm + 1) + 1) := ez_10.trans (nI_add (mm + 1) 1)
      refine lv_goto (tgt := 4) hx hb dX8_figuresOf_30 (by decide) ?_
      exact ih (x - mo mm, mm + 1) _ ⟨(show 1 ≤ (x - mo mm) from (by omega)), (show (mm + 1) < 12 from (mo_last mm hm (by omega))), (show dtL (MON.drop (mm + 1)) (x - mo mm) ((mm + 1) + 1) = dt d from (by rw [← hdt, dt_step hm (by omega)])), (show (x - mo mm) ≤ (MON.drop (mm + 1)).sum from (by omega)), lv_sub hl [0, 1, 2] rfl⟩ (show 12 - (mm + 1) < 12 - mm by omega)
theorem dX8_isLuckyDate_0 : decode cX8_isLuckyDate 0 = .ok (.iload_n 0, 1) := by decide +kernel
theorem dX8_isLuckyDate_1 : decode cX8_isLuckyDate 1 = .ok (.bipush 100, 2) := by decide +kernel
theorem dX8_isLuckyDate_3 : decode cX8_isLuckyDate 3 = .ok (.idiv, 1) := by decide +kernel
theorem dX8_isLuckyDate_4 : decode cX8_isLuckyDate 4 = .ok (.istore_n 1, 1) := by decide +kernel
theorem dX8_isLuckyDate_5 : decode cX8_isLuckyDate 5 = .ok (.iload_n 0, 1) := by decide +kernel
theorem dX8_isLuckyDate_6 : decode cX8_isLuckyDate 6 = .ok (.bipush 100, 2) := by decide +kernel
theorem dX8_isLuckyDate_8 : decode cX8_isLuckyDate 8 = .ok (.irem, 1) := by decide +kernel
theorem dX8_isLuckyDate_9 : decode cX8_isLuckyDate 9 = .ok (.istore_n 2, 1) := by decide +kernel
theorem dX8_isLuckyDate_10 : decode cX8_isLuckyDate 10 = .ok (.iload_n 1, 1) := by decide +kernel
theorem dX8_isLuckyDate_11 : decode cX8_isLuckyDate 11 = .ok (.bipush 10, 2) := by decide +kernel
theorem dX8_isLuckyDate_13 : decode cX8_isLuckyDate 13 = .ok (.idiv, 1) := by decide +kernel
theorem dX8_isLuckyDate_14 : decode cX8_isLuckyDate 14 = .ok (.iload_n 1, 1) := by decide +kernel
theorem dX8_isLuckyDate_15 : decode cX8_isLuckyDate 15 = .ok (.bipush 10, 2) := by decide +kernel
theorem dX8_isLuckyDate_17 : decode cX8_isLuckyDate 17 = .ok (.irem, 1) := by decide +kernel
theorem dX8_isLuckyDate_18 : decode cX8_isLuckyDate 18 = .ok (.iadd, 1) := by decide +kernel
theorem dX8_isLuckyDate_19 : decode cX8_isLuckyDate 19 = .ok (.iload_n 2, 1) := by decide +kernel
theorem dX8_isLuckyDate_20 : decode cX8_isLuckyDate 20 = .ok (.bipush 10, 2) := by decide +kernel
theorem dX8_isLuckyDate_22 : decode cX8_isLuckyDate 22 = .ok (.idiv, 1) := by decide +kernel
theorem dX8_isLuckyDate_23 : decode cX8_isLuckyDate 23 = .ok (.iload_n 2, 1) := by decide +kernel
theorem dX8_isLuckyDate_24 : decode cX8_isLuckyDate 24 = .ok (.bipush 10, 2) := by decide +kernel
theorem dX8_isLuckyDate_26 : decode cX8_isLuckyDate 26 = .ok (.irem, 1) := by decide +kernel
theorem dX8_isLuckyDate_27 : decode cX8_isLuckyDate 27 = .ok (.iadd, 1) := by decide +kernel
theorem dX8_isLuckyDate_28 : decode cX8_isLuckyDate 28 = .ok (.if_icmp .ne 7, 3) := by decide +kernel
theorem dX8_isLuckyDate_31 : decode cX8_isLuckyDate 31 = .ok (.iconst 1, 1) := by decide +kernel
theorem dX8_isLuckyDate_32 : decode cX8_isLuckyDate 32 = .ok (.goto 4, 3) := by decide +kernel
theorem dX8_isLuckyDate_35 : decode cX8_isLuckyDate 35 = .ok (.iconst 0, 1) := by decide +kernel
theorem dX8_isLuckyDate_36 : decode cX8_isLuckyDate 36 = .ok (.ireturn, 1) := by decide +kernel
def uX8_isLuckyDate : List Cond := .code yX8_isLuckyDate cX8_isLuckyDate 3 (some .boolean) :: ([])
set_option maxHeartbeats 4000000 in
set_option maxRecDepth 100000 in
theorem kX8_isLuckyDate (l : Launch) (dC : Nat → ClassId) (dI : Nat → Nat → Nat) (k : Nat) (hk : k < 10000) : Met l yX8_isLuckyDate uX8_isLuckyDate ({ frames := 0, cells := 0, slots := 0, locals := 0 }) (va_Pc [.int (nI k)] (fun _ => True)) (vp_Si (fun r => r = lb k)) 0 0 (fun _ => False) := by
  refine Met.ofW (cc := cX8_isLuckyDate) (maxL := 3) (ret := (some .boolean)) (by decide) rfl ?_
  intro p e s m args below meth c s₁ B hml hv
  obtain ⟨rfl, _⟩ := hv
  have hx := B.exec
  have hb := B.bytes
  have hr := B.returns
  have hts := atoms_spec (ws := uX8_isLuckyDate) B.pre
  have hown : s.vm.findClass RX8 = some m.cls := findClass_of_methodNamed B.named
  have hlocks := B.notSynchronized
  have hl := lv_entry ([.int (nI k)]) (n := 3) (Nat.le_of_ble_eq_true rfl)
  rw [lg_entry_eq]
  generalize (lg_sl ([.int (nI k)]) ++ List.replicate (3 - (lg_sl ([.int (nI k)])).length) Slot.unset).toArray = ls at hl ⊢
  have hl : lv_has ls 3 [(0, .int (nI k))] := hl
  refine lv_iload_n hx hb dX8_isLuckyDate_0 rfl (lv_at hl 0 rfl) ?_
  refine lv_bipush (v := 100) hx hb dX8_isLuckyDate_1 (by decide) ?_
  refine lv_idiv hx hb dX8_isLuckyDate_3 (by decide) ?_
  refine lv_topi (fun z_1 ez_1 => ?_)
  obtain rfl : z_1 = nI (k / 100) := ez_1.trans (pk_div (a := k) (d := 100) (by omega) (by omega) (by omega))
  refine lv_istore_n (lv' := [(1, .int (nI (k / 100))), (0, .int (nI k))]) hx hb dX8_isLuckyDate_4 rfl hl (by decide) rfl (fun ls hl => ?_)
  refine lv_iload_n hx hb dX8_isLuckyDate_5 rfl (lv_at hl 1 rfl) ?_
  refine lv_bipush (v := 100) hx hb dX8_isLuckyDate_6 (by decide) ?_
  refine lv_irem hx hb dX8_isLuckyDate_8 (by decide) ?_
  refine lv_topi (fun z_2 ez_2 => ?_)
  obtain rfl : z_2 = nI (k % 100) := ez_2.trans (pk_rem (a := k) (d := 100) (by omega) (by omega) (by omega))
  refine lv_istore_n (lv' := [(2, .int (nI (k % 100))), (1, .int (nI (k / 100))), (0, .int (nI k))]) hx hb dX8_isLuckyDate_9 rfl hl (by decide) rfl (fun ls hl => ?_)
  refine lv_iload_n hx hb dX8_isLuckyDate_10 rfl (lv_at hl 1 rfl) ?_
  refine lv_bipush (v := 10) hx hb dX8_isLuckyDate_11 (by decide) ?_
  refine lv_idiv hx hb dX8_isLuckyDate_13 (by decide) ?_
  refine lv_topi (fun z_3 ez_3 => ?_)
  obtain rfl : z_3 = nI ((k / 100) / 10) := ez_3.trans (pk_div (a := k / 100) (d := 10) (by omega) (by omega) (by omega))
  refine lv_iload_n hx hb dX8_isLuckyDate_14 rfl (lv_at hl 1 rfl) ?_
  refine lv_bipush (v := 10) hx hb dX8_isLuckyDate_15 (by decide) ?_
  refine lv_irem hx hb dX8_isLuckyDate_17 (by decide) ?_
  refine lv_topi (fun z_4 ez_4 => ?_)
  obtain rfl : z_4 = nI ((k / 100) % 10) := ez_4.trans (pk_rem (a := k / 100) (d := 10) (by omega) (by omega) (by omega))
  refine lv_iadd hx hb dX8_isLuckyDate_18 ?_
  refine lv_topi (fun z_5 ez_5 => ?_)
  obtain rfl : z_5 = nI (((k / 100) / 10) + ((k / 100) % 10)) := ez_5.trans (nI_add ((k / 100) / 10) ((k / 100) % 10))
  refine lv_iload_n hx hb dX8_isLuckyDate_19 rfl (lv_at hl 0 rfl) ?_
  refine lv_bipush (v := 10) hx hb dX8_isLuckyDate_20 (by decide) ?_
  refine lv_idiv hx hb dX8_isLuckyDate_22 (by decide) ?_
  refine lv_topi (fun z_6 ez_6 => ?_)
  obtain rfl : z_6 = nI ((k % 100) / 10) := ez_6.trans (pk_div (a := k % 100) (d := 10) (by omega) (by omega) (by omega))
  refine lv_iload_n hx hb dX8_isLuckyDate_23 rfl (lv_at hl 0 rfl) ?_
  refine lv_bipush (v := 10) hx hb dX8_isLuckyDate_24 (by decide) ?_
  refine lv_irem hx hb dX8_isLuckyDate_26 (by decide) ?_
  refine lv_topi (fun z_7 ez_7 => ?_)
  obtain rfl : z_7 = nI ((k % 100) % 10) := ez_7.trans (pk_rem (a := k % 100) (d := 10) (by omega) (by omega) (by omega))
  refine lv_iadd hx hb dX8_isLuckyDate_27 ?_
  refine lv_topi (fun z_8 ez_8 => ?_)
  obtain rfl : z_8 = nI (((k % 100) / 10) + ((k % 100) % 10)) := ez_8.trans (nI_add ((k % 100) / 10) ((k % 100) % 10))
  refine lv_icmp_ne (tgt := 35) hx hb dX8_isLuckyDate_28 (by decide) (fun c_9 => ?_) (fun c_9 => ?_)
  ·
    have nc_9 : ¬ (((k / 100) / 10) + ((k / 100) % 10) = ((k % 100) / 10) + ((k % 100) % 10)) := fun q => c_9 ((nI_eq (a := ((k / 100) / 10) + ((k / 100) % 10)) (b := ((k % 100) / 10) + ((k % 100) % 10)) (by omega) (by omega)).mpr q)
    refine lv_iconst (v := 0) hx hb dX8_isLuckyDate_35 (by decide) ?_
    exact W.zret (v := 0) hx hb hr rfl (fun t ht hW => ⟨0, rfl, lb_f (fun q => nc_9 ((ld_x k).mpr q)), ht⟩) t_nil dX8_isLuckyDate_36
  ·
    have nc_9 : ((k / 100) / 10) + ((k / 100) % 10) = ((k % 100) / 10) + ((k % 100) % 10) := (nI_eq (a := ((k / 100) / 10) + ((k / 100) % 10)) (b := ((k % 100) / 10) + ((k % 100) % 10)) (by omega) (by omega)).mp c_9
    refine lv_iconst (v := 1) hx hb dX8_isLuckyDate_31 (by decide) ?_
    refine lv_goto (tgt := 36) hx hb dX8_isLuckyDate_32 (by decide) ?_
    exact W.zret (v := 1) hx hb hr rfl (fun t ht hW => ⟨1, rfl, lb_t ((ld_x k).mp nc_9), ht⟩) t_nil dX8_isLuckyDate_36
theorem dX9_date_0 : decode cX9_date 0 = .ok (.iload_n 1, 1) := by decide +kernel
theorem dX9_date_1 : decode cX9_date 1 = .ok (.invokestatic 304, 3) := by decide +kernel
theorem dX9_date_4 : decode cX9_date 4 = .ok (.ifCond .eq 10, 3) := by decide +kernel
theorem dX9_date_7 : decode cX9_date 7 = .ok (.iload_n 1, 1) := by decide +kernel
theorem dX9_date_8 : decode cX9_date 8 = .ok (.invokestatic 309, 3) := by decide +kernel
theorem dX9_date_11 : decode cX9_date 11 = .ok (.goto 5, 3) := by decide +kernel
theorem dX9_date_14 : decode cX9_date 14 = .ok (.bipush (-2), 2) := by decide +kernel
theorem dX9_date_16 : decode cX9_date 16 = .ok (.ireturn, 1) := by decide +kernel
def uX9_date : List Cond := .code yX9_date cX9_date 2 (some .int) :: ([.methodLink RX9 304 yX8_hasDay, .static yX8_hasDay, .initialized RX8, .code yX8_hasDay cX8_hasDay 1 (some .boolean), .methodLink RX9 309 yX8_figuresOf, .static yX8_figuresOf, .code yX8_figuresOf cX8_figuresOf 3 (some .int), .fieldLink RX8 9 "LuckyTicket$Year" "MONTHS" "[I", .methodLink RX8 13 yX8_lengthOf, .static yX8_lengthOf, .code yX8_lengthOf cX8_lengthOf 1 (some .int)])
set_option maxRecDepth 20000 in
theorem gX9_date__X8_hasDay_S304 : GoodIn uX9_date (va_wsS RX9 304 yX8_hasDay uX8_hasDay) := goodIn_p _ [4] rfl (by decide +kernel)
set_option maxRecDepth 20000 in
theorem gX9_date__X8_figuresOf_S309 : GoodIn uX9_date (va_wsS RX9 309 yX8_figuresOf uX8_figuresOf) := goodIn_p _ [7, 11] rfl (by decide +kernel)
set_option maxHeartbeats 4000000 in
set_option maxRecDepth 100000 in
theorem kX9_date (l : Launch) (dC : Nat → ClassId) (dI : Nat → Nat → Nat) (h0 : Nat) (a1 : Int32) : Met l yX9_date uX9_date ({ frames := 2, cells := 0, slots := 0, locals := 42 }) (va_Pc [.ref h0, .int a1] (yw)) (vp_Si (fun r => r = dte a1)) 0 0 (fun _ => False) := by
  refine Met.ofW (cc := cX9_date) (maxL := 2) (ret := (some .int)) (by decide) rfl ?_
  intro p e s m args below meth c s₁ B hml hv
  obtain ⟨rfl, hY⟩ := hv
  have hx := B.exec
  have hb := B.bytes
  have hr := B.returns
  have hts := atoms_spec (ws := uX9_date) B.pre
  have hown : s.vm.findClass RX9 = some m.cls := findClass_of_methodNamed B.named
  have hlocks := B.notSynchronized
  obtain ⟨tM, hZ, hT⟩ := id hY
  have hS0 : va_S (fun _ => False) s.heap s.heap [] := va_S.rf
  have hl := lv_entry ([.ref h0, .int a1]) (n := 2) (Nat.le_of_ble_eq_true rfl)
  rw [lg_entry_eq]
  generalize (lg_sl ([.ref h0, .int a1]) ++ List.replicate (2 - (lg_sl ([.ref h0, .int a1])).length) Slot.unset).toArray = ls at hl ⊢
  have hl : lv_has ls 2 [(0, .ref h0), (1, .int a1)] := hl
  refine lv_iload_n hx hb dX9_date_0 rfl (lv_at hl 1 rfl) ?_
  refine vp_callSi (W.runS (As := [.int a1]) (rest := []) ⟨hx, hb, hml, hown, hts⟩ (kX8_hasDay l dC dI a1) (va_cwS 1 hts gX9_date__X8_hasDay_S304 rfl rfl rfl (by decide +kernel) ⟨lel 1 2 rfl, lel 20 42 rfl⟩) ⟨pn_fb, pn_use⟩ rfl rfl hl.1 rfl (lv_room (Nat.le_of_ble_eq_true rfl)) dX9_date_1 ⟨lel 0 0 rfl, lel 0 0 rfl⟩) (fun r_1 hr_1 => ?_)
  refine lv_if_eq (tgt := 14) hx hb dX9_date_4 (by decide) (fun c_2 => ?_) (fun c_2 => ?_)
  ·
    refine lv_bipush (v := (-2)) hx hb dX9_date_14 (by decide) ?_
    exact W.iret (v := (-2)) hx hb hr (fun t ht hW => ⟨(-2), rfl, dte_0 (hr_1.symm.trans c_2), ht⟩) t_nil dX9_date_16
  ·
    obtain ⟨d, hd1, hd2, rfl⟩ := wi_rg (k := 365) (by decide) (by decide) (fun e => c_2 (hr_1.trans e))
    refine lv_iload_n hx hb dX9_date_7 rfl (lv_at hl 1 rfl) ?_
    refine vp_callSi (W.runS (As := [.int (nI d)]) (rest := []) ⟨hx, hb, hml, hown, hts⟩ (kX8_figuresOf l dC dI d (by first | omega | exact (nx_le _ _).1) (by first | omega | exact (nx_le _ _).2)) (va_cwS 1 hts gX9_date__X8_figuresOf_S309 rfl rfl rfl (by decide +kernel) ⟨lel 2 2 rfl, lel 42 42 rfl⟩) ⟨yw_fb, (yw_use hY)⟩ rfl rfl hl.1 rfl (lv_room (Nat.le_of_ble_eq_true rfl)) dX9_date_8 ⟨lel 0 0 rfl, lel 0 0 rfl⟩) (fun r_3 hr_3 => ?_)
    obtain rfl : r_3 = (nI (dt d)) := hr_3
    refine lv_goto (tgt := 16) hx hb dX9_date_11 (by decide) ?_
    exact W.iret (v := (nI (dt d))) hx hb hr (fun t ht hW => ⟨(nI (dt d)), rfl, dte_1 (fun e => c_2 (hr_1.trans e)) hd2, ht⟩) t_nil dX9_date_16
