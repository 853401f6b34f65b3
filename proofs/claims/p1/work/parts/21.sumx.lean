theorem mid_le {n b : Nat} (hn : n ≤ 12) (hb : b ≤ 16) : (b - 1) * n / 2 ≤ 180 := by
  have h : (b - 1) * n ≤ 15 * 12 := Nat.mul_le_mul (by omega) hn
  omega
theorem mid_lt {n b : Nat} (hn : n ≤ 12) (hb : b ≤ 16) : (b - 1) * n < 2 ^ 31 := by
  have h : (b - 1) * n ≤ 15 * 12 := Nat.mul_le_mul (by omega) hn
  omega
theorem mbs_1 {g : Nat → Int64} {k : Nat} (h : g (mbs g k) < g (k + 1)) : mbs g (k + 1) = k + 1 := by
  show (if g (mbs g k) < g (k + 1) then k + 1 else mbs g k) = k + 1
  rw [if_pos h]
theorem mbs_0 {g : Nat → Int64} {k : Nat} (h : ¬ g (mbs g k) < g (k + 1)) : mbs g (k + 1) = mbs g k := by
  show (if g (mbs g k) < g (k + 1) then k + 1 else mbs g k) = mbs g k
  rw [if_neg h]
theorem fb_gt {x y : Int64} (h : ¬ x ≤ y) : y < x := by
  rw [Int64.lt_iff_toInt_lt]; rw [Int64.le_iff_toInt_le] at h; omega
theorem fb_not2 {x y : Int64} (h : x ≤ y) : ¬ y < x := by
  rw [Int64.lt_iff_toInt_lt]; rw [Int64.le_iff_toInt_le] at h; omega
theorem dX9_of_0 : decode cX9_of 0 = .ok (.iload_n 1, 1) := by decide +kernel
theorem dX9_of_1 : decode cX9_of 1 = .ok (.iload_n 2, 1) := by decide +kernel
theorem dX9_of_2 : decode cX9_of 2 = .ok (.invokestatic 318, 3) := by decide +kernel
theorem dX9_of_5 : decode cX9_of 5 = .ok (.ifCond .eq 14, 3) := by decide +kernel
theorem dX9_of_8 : decode cX9_of 8 = .ok (.iload_n 3, 1) := by decide +kernel
theorem dX9_of_9 : decode cX9_of 9 = .ok (.iconst 0, 1) := by decide +kernel
theorem dX9_of_10 : decode cX9_of 10 = .ok (.sipush 180, 3) := by decide +kernel
theorem dX9_of_13 : decode cX9_of 13 = .ok (.invokestatic 158, 3) := by decide +kernel
theorem dX9_of_16 : decode cX9_of 16 = .ok (.ifCond .ne 7, 3) := by decide +kernel
theorem dX9_of_19 : decode cX9_of 19 = .ok (.ldc2_w 265, 3) := by decide +kernel
theorem dX9_of_22 : decode cX9_of 22 = .ok (.lreturn, 1) := by decide +kernel
theorem dX9_of_23 : decode cX9_of 23 = .ok (.aload_n 0, 1) := by decide +kernel
theorem dX9_of_24 : decode cX9_of 24 = .ok (.getfield 64, 3) := by decide +kernel
theorem dX9_of_27 : decode cX9_of 27 = .ok (.iload_n 1, 1) := by decide +kernel
theorem dX9_of_28 : decode cX9_of 28 = .ok (.iload_n 2, 1) := by decide +kernel
theorem dX9_of_29 : decode cX9_of 29 = .ok (.invokevirtual 321, 3) := by decide +kernel
theorem dX9_of_32 : decode cX9_of 32 = .ok (.aload_n 0, 1) := by decide +kernel
theorem dX9_of_33 : decode cX9_of 33 = .ok (.getfield 64, 3) := by decide +kernel
theorem dX9_of_36 : decode cX9_of 36 = .ok (.iload_n 3, 1) := by decide +kernel
theorem dX9_of_37 : decode cX9_of 37 = .ok (.invokevirtual 324, 3) := by decide +kernel
theorem dX9_of_40 : decode cX9_of 40 = .ok (.lreturn, 1) := by decide +kernel
def uX9_of : List Cond := .code yX9_of cX9_of 4 (some .long) :: ([.methodLink RX9 318 yX9_isLong, .static yX9_isLong, .initialized RX9, .code yX9_isLong cX9_isLong 2 (some .boolean), .methodLink RX9 158 yX9_isWithin, .static yX9_isWithin, .code yX9_isWithin cX9_isWithin 3 (some .boolean), .constantLong RX9 265 (-2), .fieldLink RX9 64 "LuckyTicket" "sumTable" "LLuckyTicket$SumTable;", .methodLink RX9 321 yX6_fill, .instanceMethod yX6_fill, .selects RX6 yX6_fill yX6_fill, .initialized RX6, .code yX6_fill cX6_fill 4 none, .fieldLink RX6 9 "LuckyTicket$SumTable" "ways" "[J", .methodLink RX6 13 yJ7_fill_d0a16, .static yJ7_fill_d0a16, .initialized RJ7, .code yJ7_fill_d0a16 cJ7_fill_d0a16 5 none, .methodLink RX6 19 yX6_addPlace, .instanceMethod yX6_addPlace, .selects RX6 yX6_addPlace yX6_addPlace, .code yX6_addPlace cX6_addPlace 3 none, .methodLink RX9 324 yX6_waysTo, .instanceMethod yX6_waysTo, .selects RX6 yX6_waysTo yX6_waysTo, .code yX6_waysTo cX6_waysTo 2 (some .long)] ++ wsX90 ++ wsX60)
theorem iX9_of_X9 : ∀ w ∈ wsX90, w ∈ uX9_of := fun _ h => List.mem_cons_of_mem _ (List.mem_append_left _ (List.mem_append_right _ h))
theorem iX9_of_X6 : ∀ w ∈ wsX60, w ∈ uX9_of := fun _ h => List.mem_cons_of_mem _ (List.mem_append_right _ h)
set_option maxRecDepth 20000 in
theorem gX9_of__X9_isLong_S318 : GoodIn uX9_of (va_wsS RX9 318 yX9_isLong uX9_isLong) := goodIn_p _ [4, 7] rfl (by decide +kernel)
set_option maxRecDepth 20000 in
theorem gX9_of__X9_isWithin_S158 : GoodIn uX9_of (va_wsS RX9 158 yX9_isWithin uX9_isWithin) := goodIn_p _ [7] rfl (by decide +kernel)
set_option maxRecDepth 20000 in
theorem gX9_of__X6_fill_V321 : GoodIn uX9_of (wsV RX9 321 RX6 yX6_fill uX6_fill) := goodIn_p _ [14, 19, 23] rfl (by decide +kernel)
set_option maxRecDepth 20000 in
theorem gX9_of__X6_waysTo_V324 : GoodIn uX9_of (wsV RX9 324 RX6 yX6_waysTo uX6_waysTo) := goodIn_p _ [27] rfl (by decide +kernel)
set_option maxHeartbeats 4000000 in
set_option maxRecDepth 100000 in
theorem kX9_of (l : Launch) (dC : Nat → ClassId) (dI : Nat → Nat → Nat) (h0 : Nat) (tp : Nat) (sc : Nat) (rd : Nat) (cu : Nat) (im : Nat) (ig : Nat) (sl : Nat) (se : Nat) (su : Nat) (fc : Nat) (wa : Nat) (cJ : ClassId) (f : Nat → Int64) (a1 : Int32) (a2 : Int32) (a3 : Int32) (sz : Nat) : Met l yX9_of uX9_of ({ frames := 2, cells := 0, slots := 0, locals := 47 }) (va_Pc [.ref h0, .int a1, .int a2, .int a3] (hw (dC, dI) vwCl [(h0, .inr (7, [.ref tp, .ref sc, .ref rd, .ref cu, .ref im, .ref ig, .ref sl, .ref se, .ref su, .ref fc])), (su, .inr (5, [.ref wa])), (wa, .inl (cJ, 181, .inr (.inl f)))] [(cJ, .long)] sz)) (va_Ql (fun (r : Int64) (_ : Unit) => r = ofv a1 a2 a3) (fun (_ : Unit) t => va_P (dC, dI) vwCl [] t.heap ∧ va_K (dC, dI) vwCl [] t ∧ va_D (va_A [(h0, .inr (7, [.ref tp, .ref sc, .ref rd, .ref cu, .ref im, .ref ig, .ref sl, .ref se, .ref su, .ref fc])), (su, .inr (5, [.ref wa])), (wa, .inl (cJ, 181, .inr (.inl f)))] sz) []) (va_A [(h0, .inr (7, [.ref tp, .ref sc, .ref rd, .ref cu, .ref im, .ref ig, .ref sl, .ref se, .ref su, .ref fc])), (su, .inr (5, [.ref wa])), (wa, .inl (cJ, 181, .inr (.inl f)))] sz)) 0 0 (va_A [(h0, .inr (7, [.ref tp, .ref sc, .ref rd, .ref cu, .ref im, .ref ig, .ref sl, .ref se, .ref su, .ref fc])), (su, .inr (5, [.ref wa])), (wa, .inl (cJ, 181, .inr (.inl f)))] sz) := by
  refine Met.ofW (cc := cX9_of) (maxL := 4) (ret := (some .long)) (by decide) rfl ?_
  intro p e s m args below meth c s₁ B hml hv
  obtain ⟨rfl, hsz, hP, hK, hD0, hN⟩ := hv
  have hx := B.exec
  have hb := B.bytes
  have hr := B.returns
  have hts := atoms_spec (ws := uX9_of) B.pre
  have hown : s.vm.findClass RX9 = some m.cls := findClass_of_methodNamed B.named
  have hlocks := B.notSynchronized
  subst hsz
  have hD := hD0.self (sz := s.heap.size)
  generalize hAe : va_A [(h0, .inr (7, [.ref tp, .ref sc, .ref rd, .ref cu, .ref im, .ref ig, .ref sl, .ref se, .ref su, .ref fc])), (su, .inr (5, [.ref wa])), (wa, .inl (cJ, 181, .inr (.inl f)))] s.heap.size = A at hD ⊢
  have hA : ∀ q : Nat, s.heap.size ≤ q → A q := fun q h => by rw [← hAe]; exact Or.inr h
  have hS : va_S A s.heap s.heap [] := va_S.rf
  have hP : va_P (dC, dI) vwCl [(h0, .inr (7, [.ref tp, .ref sc, .ref rd, .ref cu, .ref im, .ref ig, .ref sl, .ref se, .ref su, .ref fc])), (su, .inr (5, [.ref wa])), (wa, .inl (cJ, 181, .inr (.inl f)))] s.heap := hP
  have hl := lv_entry ([.ref h0, .int a1, .int a2, .int a3]) (n := 4) (Nat.le_of_ble_eq_true rfl)
  rw [lg_entry_eq]
  generalize (lg_sl ([.ref h0, .int a1, .int a2, .int a3]) ++ List.replicate (4 - (lg_sl ([.ref h0, .int a1, .int a2, .int a3])).length) Slot.unset).toArray = ls at hl ⊢
  have hl : lv_has ls 4 [(0, .ref h0), (1, .int a1), (2, .int a2), (3, .int a3)] := hl
  refine lv_iload_n hx hb dX9_of_0 rfl (lv_at hl 1 rfl) ?_
  refine lv_iload_n hx hb dX9_of_1 rfl (lv_at hl 2 rfl) ?_
  refine vp_callSi (W.runS (As := [.int a1, .int a2]) (rest := []) ⟨hx, hb, hml, hown, hts⟩ (kX9_isLong l dC dI a1 a2) (va_cwS 2 hts gX9_of__X9_isLong_S318 rfl rfl rfl (by decide +kernel) ⟨lel 2 2 rfl, lel 43 47 rfl⟩) ⟨pn_fb, pn_use⟩ rfl rfl hl.1 rfl (lv_room (Nat.le_of_ble_eq_true rfl)) dX9_of_2 ⟨lel 0 0 rfl, lel 0 0 rfl⟩) (fun r_1 hr_1 => ?_)
  refine lv_if_eq (tgt := 19) hx hb dX9_of_5 (by decide) (fun c_2 => ?_) (fun c_2 => ?_)
  ·
    refine lv_ldc2 (v := (-2)) hx hb hown (hts (.constantLong RX9 265 (-2)) (List.mem_of_getElem? (i := 8) rfl)) dX9_of_19 ?_
    have hP9 := hP.sub (ws' := []) [] rfl
    have hD9 := hD.sub (ws' := []) [] (by decide) rfl
    have hK9 := hK.sub (tys' := []) [] rfl
    exact W.lret (v := (-2)) hx hb hr (fun t ht hW => ⟨⟨(-2), (), rfl, of_a (hr_1.symm.trans c_2), by rw [ht]; exact hP9, va_K.moved hW.alike hK9, hD9⟩, hS.F ht⟩) hS.2.2 dX9_of_22
  ·
    refine lv_iload_n hx hb dX9_of_8 rfl (lv_at hl 3 rfl) ?_
    refine lv_iconst (v := 0) hx hb dX9_of_9 (by decide) ?_
    refine lv_sipush (v := 180) hx hb dX9_of_10 (by decide) ?_
    refine vp_callSi (W.runS (As := [.int a3, .int 0, .int 180]) (rest := []) ⟨hx, hb, hml, hown, hts⟩ (kX9_isWithin l dC dI a3 0 180) (va_cwS 3 hts gX9_of__X9_isWithin_S158 rfl rfl rfl (by decide +kernel) ⟨lel 1 2 rfl, lel 22 47 rfl⟩) ⟨pn_fb, pn_use⟩ rfl rfl hl.1 rfl (lv_room (Nat.le_of_ble_eq_true rfl)) dX9_of_13 ⟨lel 0 0 rfl, lel 0 0 rfl⟩) (fun r_3 hr_3 => ?_)
    refine lv_if_ne (tgt := 23) hx hb dX9_of_16 (by decide) (fun c_4 => ?_) (fun c_4 => ?_)
    ·
      have hil : ¬ il a1 a2 = 0 := fun e => c_2 (hr_1.trans e)
      have hth : ¬ wi a3 0 180 = 0 := fun e => c_4 (hr_3.trans e)
      obtain ⟨nn, bb, hn1, hn2, hb2, hb3, rfl, rfl⟩ := il_yes hil
      obtain ⟨qq, hq, rfl⟩ := wi_180 hth
      refine lv_aload_n hx hb dX9_of_23 rfl (lv_at hl 0 rfl) ?_
      refine va_get (D := (dC, dI)) (ci := 7) (v := .ref su) (C := RX9) (T := TX9) (N := 10) hx hb hts iX9_of_X9 hown hK hP 0 rfl rfl 8 (by decide) (hts (.fieldLink RX9 64 "LuckyTicket" "sumTable" "LLuckyTicket$SumTable;") (List.mem_of_getElem? (i := 9) rfl)) (fun _ h9 => h9) rfl dX9_of_24 ?_
      refine lv_iload_n hx hb dX9_of_27 rfl (lv_at hl 1 rfl) ?_
      refine lv_iload_n hx hb dX9_of_28 rfl (lv_at hl 2 rfl) ?_
      have hFc := va_free (wc := [(su, .inr (5, [.ref wa])), (wa, .inl (cJ, 181, .inr (.inl f)))]) hD hS hA [1, 2] rfl
      refine va_callv (va_runV (As := [.int (nI nn), .int (nI bb)]) (rest := []) ⟨hx, hb, hml, hown, hts⟩ (kX6_fill l dC dI su wa cJ f nn bb (s.heap.size) (by omega) (by omega) (by omega)) (cwV 2 hts gX9_of__X6_fill_V321 rfl rfl rfl (by decide +kernel) ⟨lel 2 2 rfl, lel 47 47 rfl⟩) ⟨hw_fb, va_recv hK hP (ci := 5) (q0 := 1) rfl rfl, (hw_use hP hD hK hN [1, 2] rfl (by decide) rfl [0] rfl)⟩ rfl rfl hl.1 rfl (lv_room (Nat.le_of_ble_eq_true rfl)) dX9_of_29 ⟨lel 0 0 rfl, lel 0 0 rfl⟩) hS (fun q _ h => hFc q h) hFc (fun u_6 t H1 locs ht hvm hwr_5 hB hz1 hk1 hS => ?_)
      obtain ⟨f2_7, hf_8, hP1, hK1, hD1⟩ := hB
      rw [ht] at hP1
      have hK1 := va_K.moved hvm.symm hK1
      obtain ⟨hP, hD⟩ := va_join (wr := [(h0, .inr (7, [.ref tp, .ref sc, .ref rd, .ref cu, .ref im, .ref ig, .ref sl, .ref se, .ref su, .ref fc]))]) (w1 := [(su, .inr (5, [.ref wa])), (wa, .inl (cJ, 181, .inr (.inl f2_7)))]) hP hD [1, 2] [0] rfl rfl (by decide) (by decide) hk1 hFc hP1 hD1
      have hK := (hK.sub (tys' := []) [] rfl).app hK1
      generalize H1 = H at hP hS ⊢
      have hP : va_P (dC, dI) vwCl [(h0, .inr (7, [.ref tp, .ref sc, .ref rd, .ref cu, .ref im, .ref ig, .ref sl, .ref se, .ref su, .ref fc])), (su, .inr (5, [.ref wa])), (wa, .inl (cJ, 181, .inr (.inl f2_7)))] H := hP
      have hD : va_D A [(h0, .inr (7, [.ref tp, .ref sc, .ref rd, .ref cu, .ref im, .ref ig, .ref sl, .ref se, .ref su, .ref fc])), (su, .inr (5, [.ref wa])), (wa, .inl (cJ, 181, .inr (.inl f2_7)))] := hD
      have hK : va_K (dC, dI) vwCl [(cJ, .long)] s := hK
      refine lv_aload_n hx hb dX9_of_32 rfl (lv_at hl 0 rfl) ?_
      refine va_get (D := (dC, dI)) (ci := 7) (v := .ref su) (C := RX9) (T := TX9) (N := 10) hx hb hts iX9_of_X9 hown hK hP 0 rfl rfl 8 (by decide) (hts (.fieldLink RX9 64 "LuckyTicket" "sumTable" "LLuckyTicket$SumTable;") (List.mem_of_getElem? (i := 9) rfl)) (fun _ h9 => h9) rfl dX9_of_33 ?_
      refine lv_iload_n hx hb dX9_of_36 rfl (lv_at hl 3 rfl) ?_
      refine vp_callSl (W.runV (As := [.int (nI qq)]) (rest := []) ⟨hx, hb, hml, hown, hts⟩ (kX6_waysTo l dC dI su wa cJ f2_7 (nI qq)) (cwV 1 hts gX9_of__X6_waysTo_V324 rfl rfl rfl (by decide +kernel) ⟨lel 1 2 rfl, lel 21 47 rfl⟩) ⟨pw_fb, va_recv hK hP (ci := 5) (q0 := 1) rfl rfl, (pw_use hP hK hN [1, 2] rfl [0] rfl)⟩ rfl rfl hl.1 rfl (lv_room (Nat.le_of_ble_eq_true rfl)) dX9_of_37 ⟨lel 0 0 rfl, lel 0 0 rfl⟩) (fun r_9 hr_9 => ?_)
      have hP9 := hP.sub (ws' := []) [] rfl
      have hD9 := hD.sub (ws' := []) [] (by decide) rfl
      have hK9 := hK.sub (tys' := []) [] rfl
      exact W.lret (v := r_9) hx hb hr (fun t ht hW => ⟨⟨r_9, (), rfl, of_c hil hth hn2 hb3 hq (hr_9.trans (wt_nat hq hf_8)), by rw [ht]; exact hP9, va_K.moved hW.alike hK9, hD9⟩, hS.F ht⟩) hS.2.2 dX9_of_40
    ·
      refine lv_ldc2 (v := (-2)) hx hb hown (hts (.constantLong RX9 265 (-2)) (List.mem_of_getElem? (i := 8) rfl)) dX9_of_19 ?_
      have hP9 := hP.sub (ws' := []) [] rfl
      have hD9 := hD.sub (ws' := []) [] (by decide) rfl
      have hK9 := hK.sub (tys' := []) [] rfl
      exact W.lret (v := (-2)) hx hb hr (fun t ht hW => ⟨⟨(-2), (), rfl, of_b (hr_3.symm.trans c_4), by rw [ht]; exact hP9, va_K.moved hW.alike hK9, hD9⟩, hS.F ht⟩) hS.2.2 dX9_of_22
theorem dX9_middle_0 : decode cX9_middle 0 = .ok (.iload_n 1, 1) := by decide +kernel
theorem dX9_middle_1 : decode cX9_middle 1 = .ok (.iload_n 2, 1) := by decide +kernel
theorem dX9_middle_2 : decode cX9_middle 2 = .ok (.invokestatic 318, 3) := by decide +kernel
theorem dX9_middle_5 : decode cX9_middle 5 = .ok (.ifCond .ne 7, 3) := by decide +kernel
theorem dX9_middle_8 : decode cX9_middle 8 = .ok (.ldc2_w 265, 3) := by decide +kernel
theorem dX9_middle_11 : decode cX9_middle 11 = .ok (.lreturn, 1) := by decide +kernel
theorem dX9_middle_12 : decode cX9_middle 12 = .ok (.aload_n 0, 1) := by decide +kernel
theorem dX9_middle_13 : decode cX9_middle 13 = .ok (.getfield 64, 3) := by decide +kernel
theorem dX9_middle_16 : decode cX9_middle 16 = .ok (.iload_n 1, 1) := by decide +kernel
theorem dX9_middle_17 : decode cX9_middle 17 = .ok (.iload_n 2, 1) := by decide +kernel
theorem dX9_middle_18 : decode cX9_middle 18 = .ok (.invokevirtual 321, 3) := by decide +kernel
theorem dX9_middle_21 : decode cX9_middle 21 = .ok (.aload_n 0, 1) := by decide +kernel
theorem dX9_middle_22 : decode cX9_middle 22 = .ok (.getfield 64, 3) := by decide +kernel
theorem dX9_middle_25 : decode cX9_middle 25 = .ok (.iload_n 2, 1) := by decide +kernel
theorem dX9_middle_26 : decode cX9_middle 26 = .ok (.iconst 1, 1) := by decide +kernel
theorem dX9_middle_27 : decode cX9_middle 27 = .ok (.isub, 1) := by decide +kernel
theorem dX9_middle_28 : decode cX9_middle 28 = .ok (.iload_n 1, 1) := by decide +kernel
theorem dX9_middle_29 : decode cX9_middle 29 = .ok (.imul, 1) := by decide +kernel
theorem dX9_middle_30 : decode cX9_middle 30 = .ok (.iconst 2, 1) := by decide +kernel
theorem dX9_middle_31 : decode cX9_middle 31 = .ok (.idiv, 1) := by decide +kernel
theorem dX9_middle_32 : decode cX9_middle 32 = .ok (.invokevirtual 324, 3) := by decide +kernel
theorem dX9_middle_35 : decode cX9_middle 35 = .ok (.lreturn, 1) := by decide +kernel
def uX9_middle : List Cond := .code yX9_middle cX9_middle 3 (some .long) :: ([.methodLink RX9 318 yX9_isLong, .static yX9_isLong, .initialized RX9, .code yX9_isLong cX9_isLong 2 (some .boolean), .methodLink RX9 158 yX9_isWithin, .static yX9_isWithin, .code yX9_isWithin cX9_isWithin 3 (some .boolean), .fieldLink RX9 64 "LuckyTicket" "sumTable" "LLuckyTicket$SumTable;", .methodLink RX9 321 yX6_fill, .instanceMethod yX6_fill, .selects RX6 yX6_fill yX6_fill, .initialized RX6, .code yX6_fill cX6_fill 4 none, .fieldLink RX6 9 "LuckyTicket$SumTable" "ways" "[J", .methodLink RX6 13 yJ7_fill_d0a16, .static yJ7_fill_d0a16, .initialized RJ7, .code yJ7_fill_d0a16 cJ7_fill_d0a16 5 none, .methodLink RX6 19 yX6_addPlace, .instanceMethod yX6_addPlace, .selects RX6 yX6_addPlace yX6_addPlace, .code yX6_addPlace cX6_addPlace 3 none, .methodLink RX9 324 yX6_waysTo, .instanceMethod yX6_waysTo, .selects RX6 yX6_waysTo yX6_waysTo, .code yX6_waysTo cX6_waysTo 2 (some .long), .constantLong RX9 265 (-2)] ++ wsX90 ++ wsX60)
theorem iX9_middle_X9 : ∀ w ∈ wsX90, w ∈ uX9_middle := fun _ h => List.mem_cons_of_mem _ (List.mem_append_left _ (List.mem_append_right _ h))
theorem iX9_middle_X6 : ∀ w ∈ wsX60, w ∈ uX9_middle := fun _ h => List.mem_cons_of_mem _ (List.mem_append_right _ h)
set_option maxRecDepth 20000 in
theorem gX9_middle__X9_isLong_S318 : GoodIn uX9_middle (va_wsS RX9 318 yX9_isLong uX9_isLong) := goodIn_p _ [4, 7] rfl (by decide +kernel)
set_option maxRecDepth 20000 in
theorem gX9_middle__X6_fill_V321 : GoodIn uX9_middle (wsV RX9 321 RX6 yX6_fill uX6_fill) := goodIn_p _ [13, 18, 22] rfl (by decide +kernel)
set_option maxRecDepth 20000 in
theorem gX9_middle__X6_waysTo_V324 : GoodIn uX9_middle (wsV RX9 324 RX6 yX6_waysTo uX6_waysTo) := goodIn_p _ [26] rfl (by decide +kernel)
set_option maxHeartbeats 4000000 in
set_option maxRecDepth 100000 in
theorem kX9_middle (l : Launch) (dC : Nat → ClassId) (dI : Nat → Nat → Nat) (h0 : Nat) (tp : Nat) (sc : Nat) (rd : Nat) (cu : Nat) (im : Nat) (ig : Nat) (sl : Nat) (se : Nat) (su : Nat) (fc : Nat) (wa : Nat) (cJ : ClassId) (f : Nat → Int64) (a1 : Int32) (a2 : Int32) (sz : Nat) : Met l yX9_middle uX9_middle ({ frames := 2, cells := 0, slots := 0, locals := 47 }) (va_Pc [.ref h0, .int a1, .int a2] (hw (dC, dI) vwCl [(h0, .inr (7, [.ref tp, .ref sc, .ref rd, .ref cu, .ref im, .ref ig, .ref sl, .ref se, .ref su, .ref fc])), (su, .inr (5, [.ref wa])), (wa, .inl (cJ, 181, .inr (.inl f)))] [(cJ, .long)] sz)) (va_Ql (fun (r : Int64) (_ : Unit) => r = mdv a1 a2) (fun (_ : Unit) t => va_P (dC, dI) vwCl [] t.heap ∧ va_K (dC, dI) vwCl [] t ∧ va_D (va_A [(h0, .inr (7, [.ref tp, .ref sc, .ref rd, .ref cu, .ref im, .ref ig, .ref sl, .ref se, .ref su, .ref fc])), (su, .inr (5, [.ref wa])), (wa, .inl (cJ, 181, .inr (.inl f)))] sz) []) (va_A [(h0, .inr (7, [.ref tp, .ref sc, .ref rd, .ref cu, .ref im, .ref ig, .ref sl, .ref se, .ref su, .ref fc])), (su, .inr (5, [.ref wa])), (wa, .inl (cJ, 181, .inr (.inl f)))] sz)) 0 0 (va_A [(h0, .inr (7, [.ref tp, .ref sc, .ref rd, .ref cu, .ref im, .ref ig, .ref sl, .ref se, .ref su, .ref fc])), (su, .inr (5, [.ref wa])), (wa, .inl (cJ, 181, .inr (.inl f)))] sz) := by
  refine Met.ofW (cc := cX9_middle) (maxL := 3) (ret := (some .long)) (by decide) rfl ?_
  intro p e s m args below meth c s₁ B hml hv
  obtain ⟨rfl, hsz, hP, hK, hD0, hN⟩ := hv
  have hx := B.exec
  have hb := B.bytes
  have hr := B.returns
  have hts := atoms_spec (ws := uX9_middle) B.pre
  have hown : s.vm.findClass RX9 = some m.cls := findClass_of_methodNamed B.named
  have hlocks := B.notSynchronized
  subst hsz
  have hD := hD0.self (sz := s.heap.size)
  generalize hAe : va_A [(h0, .inr (7, [.ref tp, .ref sc, .ref rd, .ref cu, .ref im, .ref ig, .ref sl, .ref se, .ref su, .ref fc])), (su, .inr (5, [.ref wa])), (wa, .inl (cJ, 181, .inr (.inl f)))] s.heap.size = A at hD ⊢
  have hA : ∀ q : Nat, s.heap.size ≤ q → A q := fun q h => by rw [← hAe]; exact Or.inr h
  have hS : va_S A s.heap s.heap [] := va_S.rf
  have hP : va_P (dC, dI) vwCl [(h0, .inr (7, [.ref tp, .ref sc, .ref rd, .ref cu, .ref im, .ref ig, .ref sl, .ref se, .ref su, .ref fc])), (su, .inr (5, [.ref wa])), (wa, .inl (cJ, 181, .inr (.inl f)))] s.heap := hP
  have hl := lv_entry ([.ref h0, .int a1, .int a2]) (n := 3) (Nat.le_of_ble_eq_true rfl)
  rw [lg_entry_eq]
  generalize (lg_sl ([.ref h0, .int a1, .int a2]) ++ List.replicate (3 - (lg_sl ([.ref h0, .int a1, .int a2])).length) Slot.unset).toArray = ls at hl ⊢
  have hl : lv_has ls 3 [(0, .ref h0), (1, .int a1), (2, .int a2)] := hl
  refine lv_iload_n hx hb dX9_middle_0 rfl (lv_at hl 1 rfl) ?_
  refine lv_iload_n hx hb dX9_middle_1 rfl (lv_at hl 2 rfl) ?_
  refine vp_callSi (W.runS (As := [.int a1, .int a2]) (rest := []) ⟨hx, hb, hml, hown, hts⟩ (kX9_isLong l dC dI a1 a2) (va_cwS 2 hts gX9_middle__X9_isLong_S318 rfl rfl rfl (by decide +kernel) ⟨lel 2 2 rfl, lel 43 47 rfl⟩) ⟨pn_fb, pn_use⟩ rfl rfl hl.1 rfl (lv_room (Nat.le_of_ble_eq_true rfl)) dX9_middle_2 ⟨lel 0 0 rfl, lel 0 0 rfl⟩) (fun r_1 hr_1 => ?_)
  refine lv_if_ne (tgt := 12) hx hb dX9_middle_5 (by decide) (fun c_2 => ?_) (fun c_2 => ?_)
  ·
    have hil : ¬ il a1 a2 = 0 := fun e => c_2 (hr_1.trans e)
    obtain ⟨nn, bb, hn1, hn2, hb2, hb3, rfl, rfl⟩ := il_yes hil
    refine lv_aload_n hx hb dX9_middle_12 rfl (lv_at hl 0 rfl) ?_
    refine va_get (D := (dC, dI)) (ci := 7) (v := .ref su) (C := RX9) (T := TX9) (N := 10) hx hb hts iX9_middle_X9 hown hK hP 0 rfl rfl 8 (by decide) (hts (.fieldLink RX9 64 "LuckyTicket" "sumTable" "LLuckyTicket$SumTable;") (List.mem_of_getElem? (i := 8) rfl)) (fun _ h9 => h9) rfl dX9_middle_13 ?_
    refine lv_iload_n hx hb dX9_middle_16 rfl (lv_at hl 1 rfl) ?_
    refine lv_iload_n hx hb dX9_middle_17 rfl (lv_at hl 2 rfl) ?_
    have hFc := va_free (wc := [(su, .inr (5, [.ref wa])), (wa, .inl (cJ, 181, .inr (.inl f)))]) hD hS hA [1, 2] rfl
    refine va_callv (va_runV (As := [.int (nI nn), .int (nI bb)]) (rest := []) ⟨hx, hb, hml, hown, hts⟩ (kX6_fill l dC dI su wa cJ f nn bb (s.heap.size) (by omega) (by omega) (by omega)) (cwV 2 hts gX9_middle__X6_fill_V321 rfl rfl rfl (by decide +kernel) ⟨lel 2 2 rfl, lel 47 47 rfl⟩) ⟨hw_fb, va_recv hK hP (ci := 5) (q0 := 1) rfl rfl, (hw_use hP hD hK hN [1, 2] rfl (by decide) rfl [0] rfl)⟩ rfl rfl hl.1 rfl (lv_room (Nat.le_of_ble_eq_true rfl)) dX9_middle_18 ⟨lel 0 0 rfl, lel 0 0 rfl⟩) hS (fun q _ h => hFc q h) hFc (fun u_4 t H1 locs ht hvm hwr_3 hB hz1 hk1 hS => ?_)
    obtain ⟨f2_5, hf_6, hP1, hK1, hD1⟩ := hB
    rw [ht] at hP1
    have hK1 := va_K.moved hvm.symm hK1
    obtain ⟨hP, hD⟩ := va_join (wr := [(h0, .inr (7, [.ref tp, .ref sc, .ref rd, .ref cu, .ref im, .ref ig, .ref sl, .ref se, .ref su, .ref fc]))]) (w1 := [(su, .inr (5, [.ref wa])), (wa, .inl (cJ, 181, .inr (.inl f2_5)))]) hP hD [1, 2] [0] rfl rfl (by decide) (by decide) hk1 hFc hP1 hD1
    have hK := (hK.sub (tys' := []) [] rfl).app hK1
    generalize H1 = H at hP hS ⊢
    have hP : va_P (dC, dI) vwCl [(h0, .inr (7, [.ref tp, .ref sc, .ref rd, .ref cu, .ref im, .ref ig, .ref sl, .ref se, .ref su, .ref fc])), (su, .inr (5, [.ref wa])), (wa, .inl (cJ, 181, .inr (.inl f2_5)))] H := hP
    have hD : va_D A [(h0, .inr (7, [.ref tp, .ref sc, .ref rd, .ref cu, .ref im, .ref ig, .ref sl, .ref se, .ref su, .ref fc])), (su, .inr (5, [.ref wa])), (wa, .inl (cJ, 181, .inr (.inl f2_5)))] := hD
    have hK : va_K (dC, dI) vwCl [(cJ, .long)] s := hK
    refine lv_aload_n hx hb dX9_middle_21 rfl (lv_at hl 0 rfl) ?_
    refine va_get (D := (dC, dI)) (ci := 7) (v := .ref su) (C := RX9) (T := TX9) (N := 10) hx hb hts iX9_middle_X9 hown hK hP 0 rfl rfl 8 (by decide) (hts (.fieldLink RX9 64 "LuckyTicket" "sumTable" "LLuckyTicket$SumTable;") (List.mem_of_getElem? (i := 8) rfl)) (fun _ h9 => h9) rfl dX9_middle_22 ?_
    refine lv_iload_n hx hb dX9_middle_25 rfl (lv_at hl 2 rfl) ?_
    refine lv_iconst (v := 1) hx hb dX9_middle_26 (by decide) ?_
    refine lv_isub hx hb dX9_middle_27 ?_
    refine lv_topi (fun z_7 ez_7 => ?_)
    obtain rfl : z_7 = nI (bb - 1) := ez_7.trans (pk_sub (a := bb) (b := 1) (by omega))
    refine lv_iload_n hx hb dX9_middle_28 rfl (lv_at hl 1 rfl) ?_
    refine lv_imul hx hb dX9_middle_29 ?_
    refine lv_topi (fun z_8 ez_8 => ?_)
    obtain rfl : z_8 = nI ((bb - 1) * nn) := ez_8.trans (pk_mul (bb - 1) nn)
    have hml9 := mid_lt hn2 hb3
    refine lv_iconst (v := 2) hx hb dX9_middle_30 (by decide) ?_
    refine lv_idiv hx hb dX9_middle_31 (by decide) ?_
    refine lv_topi (fun z_9 ez_9 => ?_)
    obtain rfl : z_9 = nI (((bb - 1) * nn) / 2) := ez_9.trans (pk_div (a := (bb - 1) * nn) (d := 2) (by omega) (by omega) (by omega))
    refine vp_callSl (W.runV (As := [.int (nI (((bb - 1) * nn) / 2))]) (rest := []) ⟨hx, hb, hml, hown, hts⟩ (kX6_waysTo l dC dI su wa cJ f2_5 (nI (((bb - 1) * nn) / 2))) (cwV 1 hts gX9_middle__X6_waysTo_V324 rfl rfl rfl (by decide +kernel) ⟨lel 1 2 rfl, lel 21 47 rfl⟩) ⟨pw_fb, va_recv hK hP (ci := 5) (q0 := 1) rfl rfl, (pw_use hP hK hN [1, 2] rfl [0] rfl)⟩ rfl rfl hl.1 rfl (lv_room (Nat.le_of_ble_eq_true rfl)) dX9_middle_32 ⟨lel 0 0 rfl, lel 0 0 rfl⟩) (fun r_10 hr_10 => ?_)
    have hP9 := hP.sub (ws' := []) [] rfl
    have hD9 := hD.sub (ws' := []) [] (by decide) rfl
    have hK9 := hK.sub (tys' := []) [] rfl
    exact W.lret (v := r_10) hx hb hr (fun t ht hW => ⟨⟨r_10, (), rfl, md_c hil hn2 hb3 (hr_10.trans (wt_nat (mid_le hn2 hb3) hf_6)), by rw [ht]; exact hP9, va_K.moved hW.alike hK9, hD9⟩, hS.F ht⟩) hS.2.2 dX9_middle_35
  ·
    refine lv_ldc2 (v := (-2)) hx hb hown (hts (.constantLong RX9 265 (-2)) (List.mem_of_getElem? (i := 27) rfl)) dX9_middle_8 ?_
    have hP9 := hP.sub (ws' := []) [] rfl
    have hD9 := hD.sub (ws' := []) [] (by decide) rfl
    have hK9 := hK.sub (tys' := []) [] rfl
    exact W.lret (v := (-2)) hx hb hr (fun t ht hW => ⟨⟨(-2), (), rfl, md_a (hr_1.symm.trans c_2), by rw [ht]; exact hP9, va_K.moved hW.alike hK9, hD9⟩, hS.F ht⟩) hS.2.2 dX9_middle_11
theorem dX9_halves_0 : decode cX9_halves 0 = .ok (.iload_n 1, 1) := by decide +kernel
theorem dX9_halves_1 : decode cX9_halves 1 = .ok (.iload_n 2, 1) := by decide +kernel
theorem dX9_halves_2 : decode cX9_halves 2 = .ok (.invokestatic 318, 3) := by decide +kernel
theorem dX9_halves_5 : decode cX9_halves 5 = .ok (.ifCond .eq 9, 3) := by decide +kernel
theorem dX9_halves_8 : decode cX9_halves 8 = .ok (.iload_n 1, 1) := by decide +kernel
theorem dX9_halves_9 : decode cX9_halves 9 = .ok (.iconst 2, 1) := by decide +kernel
theorem dX9_halves_10 : decode cX9_halves 10 = .ok (.irem, 1) := by decide +kernel
theorem dX9_halves_11 : decode cX9_halves 11 = .ok (.ifCond .eq 7, 3) := by decide +kernel
theorem dX9_halves_14 : decode cX9_halves 14 = .ok (.ldc2_w 265, 3) := by decide +kernel
theorem dX9_halves_17 : decode cX9_halves 17 = .ok (.lreturn, 1) := by decide +kernel
theorem dX9_halves_18 : decode cX9_halves 18 = .ok (.aload_n 0, 1) := by decide +kernel
theorem dX9_halves_19 : decode cX9_halves 19 = .ok (.getfield 64, 3) := by decide +kernel
theorem dX9_halves_22 : decode cX9_halves 22 = .ok (.iload_n 1, 1) := by decide +kernel
theorem dX9_halves_23 : decode cX9_halves 23 = .ok (.iconst 2, 1) := by decide +kernel
theorem dX9_halves_24 : decode cX9_halves 24 = .ok (.idiv, 1) := by decide +kernel
theorem dX9_halves_25 : decode cX9_halves 25 = .ok (.iload_n 2, 1) := by decide +kernel
theorem dX9_halves_26 : decode cX9_halves 26 = .ok (.invokevirtual 321, 3) := by decide +kernel
theorem dX9_halves_29 : decode cX9_halves 29 = .ok (.lconst 0, 1) := by decide +kernel
theorem dX9_halves_30 : decode cX9_halves 30 = .ok (.lstore_n 3, 1) := by decide +kernel
theorem dX9_halves_31 : decode cX9_halves 31 = .ok (.iconst 0, 1) := by decide +kernel
theorem dX9_halves_32 : decode cX9_halves 32 = .ok (.istore 5, 2) := by decide +kernel
theorem dX9_halves_34 : decode cX9_halves 34 = .ok (.iload 5, 2) := by decide +kernel
theorem dX9_halves_36 : decode cX9_halves 36 = .ok (.sipush 180, 3) := by decide +kernel
theorem dX9_halves_39 : decode cX9_halves 39 = .ok (.if_icmp .gt 31, 3) := by decide +kernel
theorem dX9_halves_42 : decode cX9_halves 42 = .ok (.lload_n 3, 1) := by decide +kernel
theorem dX9_halves_43 : decode cX9_halves 43 = .ok (.aload_n 0, 1) := by decide +kernel
theorem dX9_halves_44 : decode cX9_halves 44 = .ok (.getfield 64, 3) := by decide +kernel
theorem dX9_halves_47 : decode cX9_halves 47 = .ok (.iload 5, 2) := by decide +kernel
theorem dX9_halves_49 : decode cX9_halves 49 = .ok (.invokevirtual 324, 3) := by decide +kernel
theorem dX9_halves_52 : decode cX9_halves 52 = .ok (.aload_n 0, 1) := by decide +kernel
theorem dX9_halves_53 : decode cX9_halves 53 = .ok (.getfield 64, 3) := by decide +kernel
theorem dX9_halves_56 : decode cX9_halves 56 = .ok (.iload 5, 2) := by decide +kernel
theorem dX9_halves_58 : decode cX9_halves 58 = .ok (.invokevirtual 324, 3) := by decide +kernel
theorem dX9_halves_61 : decode cX9_halves 61 = .ok (.lmul, 1) := by decide +kernel
theorem dX9_halves_62 : decode cX9_halves 62 = .ok (.ladd, 1) := by decide +kernel
theorem dX9_halves_63 : decode cX9_halves 63 = .ok (.lstore_n 3, 1) := by decide +kernel
theorem dX9_halves_64 : decode cX9_halves 64 = .ok (.iinc 5 1, 3) := by decide +kernel
theorem dX9_halves_67 : decode cX9_halves 67 = .ok (.goto (-33), 3) := by decide +kernel
theorem dX9_halves_70 : decode cX9_halves 70 = .ok (.lload_n 3, 1) := by decide +kernel
theorem dX9_halves_71 : decode cX9_halves 71 = .ok (.lreturn, 1) := by decide +kernel
def uX9_halves : List Cond := .code yX9_halves cX9_halves 6 (some .long) :: ([.methodLink RX9 318 yX9_isLong, .static yX9_isLong, .initialized RX9, .code yX9_isLong cX9_isLong 2 (some .boolean), .methodLink RX9 158 yX9_isWithin, .static yX9_isWithin, .code yX9_isWithin cX9_isWithin 3 (some .boolean), .constantLong RX9 265 (-2), .fieldLink RX9 64 "LuckyTicket" "sumTable" "LLuckyTicket$SumTable;", .methodLink RX9 321 yX6_fill, .instanceMethod yX6_fill, .selects RX6 yX6_fill yX6_fill, .initialized RX6, .code yX6_fill cX6_fill 4 none, .fieldLink RX6 9 "LuckyTicket$SumTable" "ways" "[J", .methodLink RX6 13 yJ7_fill_d0a16, .static yJ7_fill_d0a16, .initialized RJ7, .code yJ7_fill_d0a16 cJ7_fill_d0a16 5 none, .methodLink RX6 19 yX6_addPlace, .instanceMethod yX6_addPlace, .selects RX6 yX6_addPlace yX6_addPlace, .code yX6_addPlace cX6_addPlace 3 none, .methodLink RX9 324 yX6_waysTo, .instanceMethod yX6_waysTo, .selects RX6 yX6_waysTo yX6_waysTo, .code yX6_waysTo cX6_waysTo 2 (some .long)] ++ wsX90 ++ wsX60)
theorem iX9_halves_X9 : ∀ w ∈ wsX90, w ∈ uX9_halves := fun _ h => List.mem_cons_of_mem _ (List.mem_append_left _ (List.mem_append_right _ h))
theorem iX9_halves_X6 : ∀ w ∈ wsX60, w ∈ uX9_halves := fun _ h => List.mem_cons_of_mem _ (List.mem_append_right _ h)
set_option maxRecDepth 20000 in
theorem gX9_halves__X9_isLong_S318 : GoodIn uX9_halves (va_wsS RX9 318 yX9_isLong uX9_isLong) := goodIn_p _ [4, 7] rfl (by decide +kernel)
set_option maxRecDepth 20000 in
theorem gX9_halves__X6_fill_V321 : GoodIn uX9_halves (wsV RX9 321 RX6 yX6_fill uX6_fill) := goodIn_p _ [14, 19, 23] rfl (by decide +kernel)
set_option maxRecDepth 20000 in
theorem gX9_halves__X6_waysTo_V324 : GoodIn uX9_halves (wsV RX9 324 RX6 yX6_waysTo uX6_waysTo) := goodIn_p _ [27] rfl (by decide +kernel)
set_option maxHeartbeats 4000000 in
set_option maxRecDepth 100000 in
theorem kX9_halves (l : Launch) (dC : Nat → ClassId) (dI : Nat → Nat → Nat) (h0 : Nat) (tp : Nat) (sc : Nat) (rd : Nat) (cu : Nat) (im : Nat) (ig : Nat) (sl : Nat) (se : Nat) (su : Nat) (fc : Nat) (wa : Nat) (cJ : ClassId) (f : Nat → Int64) (a1 : Int32) (a2 : Int32) (sz : Nat) : Met l yX9_halves uX9_halves ({ frames := 2, cells := 0, slots := 0, locals := 47 }) (va_Pc [.ref h0, .int a1, .int a2] (hw (dC, dI) vwCl [(h0, .inr (7, [.ref tp, .ref sc, .ref rd, .ref cu, .ref im, .ref ig, .ref sl, .ref se, .ref su, .ref fc])), (su, .inr (5, [.ref wa])), (wa, .inl (cJ, 181, .inr (.inl f)))] [(cJ, .long)] sz)) (va_Ql (fun (r : Int64) (_ : Unit) => r = hvv a1 a2) (fun (_ : Unit) t => va_P (dC, dI) vwCl [] t.heap ∧ va_K (dC, dI) vwCl [] t ∧ va_D (va_A [(h0, .inr (7, [.ref tp, .ref sc, .ref rd, .ref cu, .ref im, .ref ig, .ref sl, .ref se, .ref su, .ref fc])), (su, .inr (5, [.ref wa])), (wa, .inl (cJ, 181, .inr (.inl f)))] sz) []) (va_A [(h0, .inr (7, [.ref tp, .ref sc, .ref rd, .ref cu, .ref im, .ref ig, .ref sl, .ref se, .ref su, .ref fc])), (su, .inr (5, [.ref wa])), (wa, .inl (cJ, 181, .inr (.inl f)))] sz)) 0 0 (va_A [(h0, .inr (7, [.ref tp, .ref sc, .ref rd, .ref cu, .ref im, .ref ig, .ref sl, .ref se, .ref su, .ref fc])), (su, .inr (5, [.ref wa])), (wa, .inl (cJ, 181, .inr (.inl f)))] sz) := by
  refine Met.ofW (cc := cX9_halves) (maxL := 6) (ret := (some .long)) (by decide) rfl ?_
  intro p e s m args below meth c s₁ B hml hv
  obtain ⟨rfl, hsz, hP, hK, hD0, hN⟩ := hv
  have hx := B.exec
  have hb := B.bytes
  have hr := B.returns
  have hts := atoms_spec (ws := uX9_halves) B.pre
  have hown : s.vm.findClass RX9 = some m.cls := findClass_of_methodNamed B.named
  have hlocks := B.notSynchronized
  subst hsz
  have hD := hD0.self (sz := s.heap.size)
  generalize hAe : va_A [(h0, .inr (7, [.ref tp, .ref sc, .ref rd, .ref cu, .ref im, .ref ig, .ref sl, .ref se, .ref su, .ref fc])), (su, .inr (5, [.ref wa])), (wa, .inl (cJ, 181, .inr (.inl f)))] s.heap.size = A at hD ⊢
  have hA : ∀ q : Nat, s.heap.size ≤ q → A q := fun q h => by rw [← hAe]; exact Or.inr h
  have hS : va_S A s.heap s.heap [] := va_S.rf
  have hP : va_P (dC, dI) vwCl [(h0, .inr (7, [.ref tp, .ref sc, .ref rd, .ref cu, .ref im, .ref ig, .ref sl, .ref se, .ref su, .ref fc])), (su, .inr (5, [.ref wa])), (wa, .inl (cJ, 181, .inr (.inl f)))] s.heap := hP
  have hl := lv_entry ([.ref h0, .int a1, .int a2]) (n := 6) (Nat.le_of_ble_eq_true rfl)
  rw [lg_entry_eq]
  generalize (lg_sl ([.ref h0, .int a1, .int a2]) ++ List.replicate (6 - (lg_sl ([.ref h0, .int a1, .int a2])).length) Slot.unset).toArray = ls at hl ⊢
  have hl : lv_has ls 6 [(0, .ref h0), (1, .int a1), (2, .int a2)] := hl
  refine lv_iload_n hx hb dX9_halves_0 rfl (lv_at hl 1 rfl) ?_
  refine lv_iload_n hx hb dX9_halves_1 rfl (lv_at hl 2 rfl) ?_
  refine vp_callSi (W.runS (As := [.int a1, .int a2]) (rest := []) ⟨hx, hb, hml, hown, hts⟩ (kX9_isLong l dC dI a1 a2) (va_cwS 2 hts gX9_halves__X9_isLong_S318 rfl rfl rfl (by decide +kernel) ⟨lel 2 2 rfl, lel 43 47 rfl⟩) ⟨pn_fb, pn_use⟩ rfl rfl hl.1 rfl (lv_room (Nat.le_of_ble_eq_true rfl)) dX9_halves_2 ⟨lel 0 0 rfl, lel 0 0 rfl⟩) (fun r_1 hr_1 => ?_)
  refine lv_if_eq (tgt := 14) hx hb dX9_halves_5 (by decide) (fun c_2 => ?_) (fun c_2 => ?_)
  ·
    refine lv_ldc2 (v := (-2)) hx hb hown (hts (.constantLong RX9 265 (-2)) (List.mem_of_getElem? (i := 8) rfl)) dX9_halves_14 ?_
    have hP9 := hP.sub (ws' := []) [] rfl
    have hD9 := hD.sub (ws' := []) [] (by decide) rfl
    have hK9 := hK.sub (tys' := []) [] rfl
    exact W.lret (v := (-2)) hx hb hr (fun t ht hW => ⟨⟨(-2), (), rfl, hv_a (hr_1.symm.trans c_2), by rw [ht]; exact hP9, va_K.moved hW.alike hK9, hD9⟩, hS.F ht⟩) hS.2.2 dX9_halves_17
  ·
    have hil : ¬ il a1 a2 = 0 := fun e => c_2 (hr_1.trans e)
    obtain ⟨nn, bb, hn1, hn2, hb2, hb3, rfl, rfl⟩ := il_yes hil
    refine lv_iload_n hx hb dX9_halves_8 rfl (lv_at hl 1 rfl) ?_
    refine lv_iconst (v := 2) hx hb dX9_halves_9 (by decide) ?_
    refine lv_irem hx hb dX9_halves_10 (by decide) ?_
    refine lv_topi (fun z_3 ez_3 => ?_)
    obtain rfl : z_3 = nI (nn % 2) := ez_3.trans (pk_rem (a := nn) (d := 2) (by omega) (by omega) (by omega))
    refine lv_if_eq (tgt := 18) hx hb dX9_halves_11 (by decide) (fun c_4 => ?_) (fun c_4 => ?_)
    ·
      have nc_4 : nn % 2 = 0 := (nI_eq (a := nn % 2) (b := 0) (by omega) (by omega)).mp c_4
      refine lv_aload_n hx hb dX9_halves_18 rfl (lv_at hl 0 rfl) ?_
      refine va_get (D := (dC, dI)) (ci := 7) (v := .ref su) (C := RX9) (T := TX9) (N := 10) hx hb hts iX9_halves_X9 hown hK hP 0 rfl rfl 8 (by decide) (hts (.fieldLink RX9 64 "LuckyTicket" "sumTable" "LLuckyTicket$SumTable;") (List.mem_of_getElem? (i := 9) rfl)) (fun _ h9 => h9) rfl dX9_halves_19 ?_
      refine lv_iload_n hx hb dX9_halves_22 rfl (lv_at hl 1 rfl) ?_
      refine lv_iconst (v := 2) hx hb dX9_halves_23 (by decide) ?_
      refine lv_idiv hx hb dX9_halves_24 (by decide) ?_
      refine lv_topi (fun z_5 ez_5 => ?_)
      obtain rfl : z_5 = nI (nn / 2) := ez_5.trans (pk_div (a := nn) (d := 2) (by omega) (by omega) (by omega))
      refine lv_iload_n hx hb dX9_halves_25 rfl (lv_at hl 2 rfl) ?_
      have hFc := va_free (wc := [(su, .inr (5, [.ref wa])), (wa, .inl (cJ, 181, .inr (.inl f)))]) hD hS hA [1, 2] rfl
      refine va_callv (va_runV (As := [.int (nI (nn / 2)), .int (nI bb)]) (rest := []) ⟨hx, hb, hml, hown, hts⟩ (kX6_fill l dC dI su wa cJ f (nn / 2) bb (s.heap.size) (by omega) (by omega) (by omega)) (cwV 2 hts gX9_halves__X6_fill_V321 rfl rfl rfl (by decide +kernel) ⟨lel 2 2 rfl, lel 47 47 rfl⟩) ⟨hw_fb, va_recv hK hP (ci := 5) (q0 := 1) rfl rfl, (hw_use hP hD hK hN [1, 2] rfl (by decide) rfl [0] rfl)⟩ rfl rfl hl.1 rfl (lv_room (Nat.le_of_ble_eq_true rfl)) dX9_halves_26 ⟨lel 0 0 rfl, lel 0 0 rfl⟩) hS (fun q _ h => hFc q h) hFc (fun u_7 t H1 locs ht hvm hwr_6 hB hz1 hk1 hS => ?_)
      obtain ⟨f2_8, hf_9, hP1, hK1, hD1⟩ := hB
      rw [ht] at hP1
      have hK1 := va_K.moved hvm.symm hK1
      obtain ⟨hP, hD⟩ := va_join (wr := [(h0, .inr (7, [.ref tp, .ref sc, .ref rd, .ref cu, .ref im, .ref ig, .ref sl, .ref se, .ref su, .ref fc]))]) (w1 := [(su, .inr (5, [.ref wa])), (wa, .inl (cJ, 181, .inr (.inl f2_8)))]) hP hD [1, 2] [0] rfl rfl (by decide) (by decide) hk1 hFc hP1 hD1
      have hK := (hK.sub (tys' := []) [] rfl).app hK1
      generalize H1 = H at hP hS ⊢
      have hP : va_P (dC, dI) vwCl [(h0, .inr (7, [.ref tp, .ref sc, .ref rd, .ref cu, .ref im, .ref ig, .ref sl, .ref se, .ref su, .ref fc])), (su, .inr (5, [.ref wa])), (wa, .inl (cJ, 181, .inr (.inl f2_8)))] H := hP
      have hD : va_D A [(h0, .inr (7, [.ref tp, .ref sc, .ref rd, .ref cu, .ref im, .ref ig, .ref sl, .ref se, .ref su, .ref fc])), (su, .inr (5, [.ref wa])), (wa, .inl (cJ, 181, .inr (.inl f2_8)))] := hD
      have hK : va_K (dC, dI) vwCl [(cJ, .long)] s := hK
      refine lv_lconst (v := 0) hx hb dX9_halves_29 (by decide) ?_
      refine lv_lstore_n (lv' := [(3, .long 0), (0, .ref h0), (1, .int (nI nn)), (2, .int (nI bb))]) hx hb dX9_halves_30 rfl hl (by decide) rfl (fun ls hl => ?_)
      refine lv_iconst (v := 0) hx hb dX9_halves_31 (by decide) ?_
      refine lv_istore (lv' := [(5, .int 0), (3, .long 0), (0, .ref h0), (1, .int (nI nn)), (2, .int (nI bb))]) hx hb dX9_halves_32 hl (by decide) rfl (fun ls hl => ?_)
      refine loopW (σ := Nat) (fun v => 182 - v) (fun v H locs ls => (v ≤ 181) ∧ va_P (dC, dI) vwCl [(h0, .inr (7, [.ref tp, .ref sc, .ref rd, .ref cu, .ref im, .ref ig, .ref sl, .ref se, .ref su, .ref fc])), (su, .inr (5, [.ref wa])), (wa, .inl (cJ, 181, .inr (.inl f2_8)))] H ∧ va_D A [(h0, .inr (7, [.ref tp, .ref sc, .ref rd, .ref cu, .ref im, .ref ig, .ref sl, .ref se, .ref su, .ref fc])), (su, .inr (5, [.ref wa])), (wa, .inl (cJ, 181, .inr (.inl f2_8)))] ∧ va_S A s.heap H locs ∧ lv_has ls 6 [(5, .int (nI v)), (3, .long (hs (TT 0 (bb - 1) (nn / 2)) v)), (0, .ref h0), (1, .int (nI nn)), (2, .int (nI bb))]) (fun v H locs ls hI ih => ?_) 0 ⟨(show 0 ≤ 181 from Nat.zero_le _), hP, hD, hS, hl⟩
      obtain ⟨i, rfl⟩ : ∃ z, z = v := ⟨_, rfl⟩
      obtain ⟨hi, hP, hD, hS, hl⟩ := hI
      have hi : i ≤ 181 := hi
      have hP : va_P (dC, dI) vwCl [(h0, .inr (7, [.ref tp, .ref sc, .ref rd, .ref cu, .ref im, .ref ig, .ref sl, .ref se, .ref su, .ref fc])), (su, .inr (5, [.ref wa])), (wa, .inl (cJ, 181, .inr (.inl f2_8)))] H := hP
      have hD : va_D A [(h0, .inr (7, [.ref tp, .ref sc, .ref rd, .ref cu, .ref im, .ref ig, .ref sl, .ref se, .ref su, .ref fc])), (su, .inr (5, [.ref wa])), (wa, .inl (cJ, 181, .inr (.inl f2_8)))] := hD
      have hl : lv_has ls 6 [(5, .int (nI i)), (3, .long (hs (TT 0 (bb - 1) (nn / 2)) i)), (0, .ref h0), (1, .int (nI nn)), (2, .int (nI bb))] := hl
      refine lv_iload hx hb dX9_halves_34 (lv_at hl 0 rfl) ?_
      refine lv_sipush (v := 180) hx hb dX9_halves_36 (by decide) ?_
      refine lv_icmp_gt (tgt := 70) hx hb dX9_halves_39 (by decide) (fun c_10 => ?_) (fun c_10 => ?_)
      ·
        have nc_10 : 180 < i := (nI_ltI (a := 180) (b := i) (by omega) (by omega)).mp c_10
        refine lv_lload_n hx hb dX9_halves_70 rfl (lv_at hl 1 rfl) ?_
        have hP9 := hP.sub (ws' := []) [] rfl
        have hD9 := hD.sub (ws' := []) [] (by decide) rfl
        have hK9 := hK.sub (tys' := []) [] rfl
        exact W.lret (v := (hs (TT 0 (bb - 1) (nn / 2)) i)) hx hb hr (fun t ht hW => ⟨⟨(hs (TT 0 (bb - 1) (nn / 2)) i), (), rfl, hv_c hil hn2 hb3 (by omega) (show hs (TT 0 (bb - 1) (nn / 2)) i = _ by rw [show i = 181 by omega]), by rw [ht]; exact hP9, va_K.moved hW.alike hK9, hD9⟩, hS.F ht⟩) hS.2.2 dX9_halves_71
      ·
        have nc_10 : ¬ 180 < i := fun q => c_10 ((nI_ltI (a := 180) (b := i) (by omega) (by omega)).mpr q)
        refine lv_lload_n hx hb dX9_halves_42 rfl (lv_at hl 1 rfl) ?_
        refine lv_aload_n hx hb dX9_halves_43 rfl (lv_at hl 2 rfl) ?_
        refine va_get (D := (dC, dI)) (ci := 7) (v := .ref su) (C := RX9) (T := TX9) (N := 10) hx hb hts iX9_halves_X9 hown hK hP 0 rfl rfl 8 (by decide) (hts (.fieldLink RX9 64 "LuckyTicket" "sumTable" "LLuckyTicket$SumTable;") (List.mem_of_getElem? (i := 9) rfl)) (fun _ h9 => h9) rfl dX9_halves_44 ?_
        refine lv_iload hx hb dX9_halves_47 (lv_at hl 0 rfl) ?_
        refine vp_callSl (W.runV (As := [.int (nI i)]) (rest := [.long (hs (TT 0 (bb - 1) (nn / 2)) i)]) ⟨hx, hb, hml, hown, hts⟩ (kX6_waysTo l dC dI su wa cJ f2_8 (nI i)) (cwV 1 hts gX9_halves__X6_waysTo_V324 rfl rfl rfl (by decide +kernel) ⟨lel 1 2 rfl, lel 21 47 rfl⟩) ⟨pw_fb, va_recv hK hP (ci := 5) (q0 := 1) rfl rfl, (pw_use hP hK hN [1, 2] rfl [0] rfl)⟩ rfl rfl hl.1 rfl (lv_room (Nat.le_of_ble_eq_true rfl)) dX9_halves_49 ⟨lel 0 0 rfl, lel 0 0 rfl⟩) (fun r_11 hr_11 => ?_)
        refine lv_aload_n hx hb dX9_halves_52 rfl (lv_at hl 2 rfl) ?_
        refine va_get (D := (dC, dI)) (ci := 7) (v := .ref su) (C := RX9) (T := TX9) (N := 10) hx hb hts iX9_halves_X9 hown hK hP 0 rfl rfl 8 (by decide) (hts (.fieldLink RX9 64 "LuckyTicket" "sumTable" "LLuckyTicket$SumTable;") (List.mem_of_getElem? (i := 9) rfl)) (fun _ h9 => h9) rfl dX9_halves_53 ?_
        refine lv_iload hx hb dX9_halves_56 (lv_at hl 0 rfl) ?_
        refine vp_callSl (W.runV (As := [.int (nI i)]) (rest := [.long r_11, .long (hs (TT 0 (bb - 1) (nn / 2)) i)]) ⟨hx, hb, hml, hown, hts⟩ (kX6_waysTo l dC dI su wa cJ f2_8 (nI i)) (cwV 1 hts gX9_halves__X6_waysTo_V324 rfl rfl rfl (by decide +kernel) ⟨lel 1 2 rfl, lel 21 47 rfl⟩) ⟨pw_fb, va_recv hK hP (ci := 5) (q0 := 1) rfl rfl, (pw_use hP hK hN [1, 2] rfl [0] rfl)⟩ rfl rfl hl.1 rfl (lv_room (Nat.le_of_ble_eq_true rfl)) dX9_halves_58 ⟨lel 0 0 rfl, lel 0 0 rfl⟩) (fun r_12 hr_12 => ?_)
        refine lv_lmul hx hb dX9_halves_61 ?_
        refine lv_topl (fun z_13 ez_13 => ?_)
        refine lv_ladd hx hb dX9_halves_62 ?_
        refine lv_topl (fun z_14 ez_14 => ?_)
        refine lv_lstore_n (lv' := [(3, .long z_14), (5, .int (nI i)), (0, .ref h0), (1, .int (nI nn)), (2, .int (nI bb))]) hx hb dX9_halves_63 rfl hl (by decide) rfl (fun ls hl => ?_)
        obtain ⟨z_15, ez_15⟩ : ∃ y : Int32, y = nI i + 1 := ⟨_, rfl⟩
        refine lv_iinc (v := z_15) (lv' := [(5, .int z_15), (3, .long z_14), (0, .ref h0), (1, .int (nI nn)), (2, .int (nI bb))]) hx hb dX9_halves_64 hl (k := 1) rfl (by rw [ez_15]; rfl) (by decide) rfl (fun ls hl => ?_)
        obtain rfl : z_15 = nI (i + 1) := ez_15.trans (nI_add i 1)
        refine lv_goto (tgt := 34) hx hb dX9_halves_67 (by decide) ?_
        have hl : lv_has ls 6 [(5, .int (nI (i + 1))), (3, .long (hs (TT 0 (bb - 1) (nn / 2)) (i + 1))), (0, .ref h0), (1, .int (nI nn)), (2, .int (nI bb))] := by rw [show hs (TT 0 (bb - 1) (nn / 2)) (i + 1) = z_14 from by rw [ez_14, ez_13, hr_12, hr_11, wt_nat (by omega) hf_9]; rfl]; exact hl
        exact ih (i + 1) _ _ _ ⟨(show (i + 1) ≤ 181 from (by omega)), hP, hD, hS, lv_sub hl [0, 1, 2, 3, 4] rfl⟩ (show 182 - (i + 1) < 182 - i by omega)
    ·
      have nc_4 : ¬ (nn % 2 = 0) := fun q => c_4 ((nI_eq (a := nn % 2) (b := 0) (by omega) (by omega)).mpr q)
      refine lv_ldc2 (v := (-2)) hx hb hown (hts (.constantLong RX9 265 (-2)) (List.mem_of_getElem? (i := 8) rfl)) dX9_halves_14 ?_
      have hP9 := hP.sub (ws' := []) [] rfl
      have hD9 := hD.sub (ws' := []) [] (by decide) rfl
      have hK9 := hK.sub (tys' := []) [] rfl
      exact W.lret (v := (-2)) hx hb hr (fun t ht hW => ⟨⟨(-2), (), rfl, hv_b hn2 (fun q => c_4 (by rw [q]; rfl)), by rw [ht]; exact hP9, va_K.moved hW.alike hK9, hD9⟩, hS.F ht⟩) hS.2.2 dX9_halves_17
theorem dX9_most_0 : decode cX9_most 0 = .ok (.iload_n 1, 1) := by decide +kernel
theorem dX9_most_1 : decode cX9_most 1 = .ok (.iload_n 2, 1) := by decide +kernel
theorem dX9_most_2 : decode cX9_most 2 = .ok (.invokestatic 318, 3) := by decide +kernel
theorem dX9_most_5 : decode cX9_most 5 = .ok (.ifCond .ne 6, 3) := by decide +kernel
theorem dX9_most_8 : decode cX9_most 8 = .ok (.bipush (-2), 2) := by decide +kernel
theorem dX9_most_10 : decode cX9_most 10 = .ok (.ireturn, 1) := by decide +kernel
theorem dX9_most_11 : decode cX9_most 11 = .ok (.aload_n 0, 1) := by decide +kernel
theorem dX9_most_12 : decode cX9_most 12 = .ok (.getfield 64, 3) := by decide +kernel
theorem dX9_most_15 : decode cX9_most 15 = .ok (.iload_n 1, 1) := by decide +kernel
theorem dX9_most_16 : decode cX9_most 16 = .ok (.iload_n 2, 1) := by decide +kernel
theorem dX9_most_17 : decode cX9_most 17 = .ok (.invokevirtual 321, 3) := by decide +kernel
theorem dX9_most_20 : decode cX9_most 20 = .ok (.iconst 0, 1) := by decide +kernel
theorem dX9_most_21 : decode cX9_most 21 = .ok (.istore_n 3, 1) := by decide +kernel
theorem dX9_most_22 : decode cX9_most 22 = .ok (.iconst 1, 1) := by decide +kernel
theorem dX9_most_23 : decode cX9_most 23 = .ok (.istore 4, 2) := by decide +kernel
theorem dX9_most_25 : decode cX9_most 25 = .ok (.iload 4, 2) := by decide +kernel
theorem dX9_most_27 : decode cX9_most 27 = .ok (.sipush 180, 3) := by decide +kernel
theorem dX9_most_30 : decode cX9_most 30 = .ok (.if_icmp .gt 33, 3) := by decide +kernel
theorem dX9_most_33 : decode cX9_most 33 = .ok (.aload_n 0, 1) := by decide +kernel
theorem dX9_most_34 : decode cX9_most 34 = .ok (.getfield 64, 3) := by decide +kernel
theorem dX9_most_37 : decode cX9_most 37 = .ok (.iload 4, 2) := by decide +kernel
theorem dX9_most_39 : decode cX9_most 39 = .ok (.invokevirtual 324, 3) := by decide +kernel
theorem dX9_most_42 : decode cX9_most 42 = .ok (.aload_n 0, 1) := by decide +kernel
theorem dX9_most_43 : decode cX9_most 43 = .ok (.getfield 64, 3) := by decide +kernel
theorem dX9_most_46 : decode cX9_most 46 = .ok (.iload_n 3, 1) := by decide +kernel
theorem dX9_most_47 : decode cX9_most 47 = .ok (.invokevirtual 324, 3) := by decide +kernel
theorem dX9_most_50 : decode cX9_most 50 = .ok (.lcmp, 1) := by decide +kernel
theorem dX9_most_51 : decode cX9_most 51 = .ok (.ifCond .le 6, 3) := by decide +kernel
theorem dX9_most_54 : decode cX9_most 54 = .ok (.iload 4, 2) := by decide +kernel
theorem dX9_most_56 : decode cX9_most 56 = .ok (.istore_n 3, 1) := by decide +kernel
theorem dX9_most_57 : decode cX9_most 57 = .ok (.iinc 4 1, 3) := by decide +kernel
theorem dX9_most_60 : decode cX9_most 60 = .ok (.goto (-35), 3) := by decide +kernel
theorem dX9_most_63 : decode cX9_most 63 = .ok (.iload_n 3, 1) := by decide +kernel
theorem dX9_most_64 : decode cX9_most 64 = .ok (.ireturn, 1) := by decide +kernel
def uX9_most : List Cond := .code yX9_most cX9_most 5 (some .int) :: ([.methodLink RX9 318 yX9_isLong, .static yX9_isLong, .initialized RX9, .code yX9_isLong cX9_isLong 2 (some .boolean), .methodLink RX9 158 yX9_isWithin, .static yX9_isWithin, .code yX9_isWithin cX9_isWithin 3 (some .boolean), .fieldLink RX9 64 "LuckyTicket" "sumTable" "LLuckyTicket$SumTable;", .methodLink RX9 321 yX6_fill, .instanceMethod yX6_fill, .selects RX6 yX6_fill yX6_fill, .initialized RX6, .code yX6_fill cX6_fill 4 none, .fieldLink RX6 9 "LuckyTicket$SumTable" "ways" "[J", .methodLink RX6 13 yJ7_fill_d0a16, .static yJ7_fill_d0a16, .initialized RJ7, .code yJ7_fill_d0a16 cJ7_fill_d0a16 5 none, .methodLink RX6 19 yX6_addPlace, .instanceMethod yX6_addPlace, .selects RX6 yX6_addPlace yX6_addPlace, .code yX6_addPlace cX6_addPlace 3 none, .methodLink RX9 324 yX6_waysTo, .instanceMethod yX6_waysTo, .selects RX6 yX6_waysTo yX6_waysTo, .code yX6_waysTo cX6_waysTo 2 (some .long)] ++ wsX90 ++ wsX60)
theorem iX9_most_X9 : ∀ w ∈ wsX90, w ∈ uX9_most := fun _ h => List.mem_cons_of_mem _ (List.mem_append_left _ (List.mem_append_right _ h))
theorem iX9_most_X6 : ∀ w ∈ wsX60, w ∈ uX9_most := fun _ h => List.mem_cons_of_mem _ (List.mem_append_right _ h)
set_option maxRecDepth 20000 in
theorem gX9_most__X9_isLong_S318 : GoodIn uX9_most (va_wsS RX9 318 yX9_isLong uX9_isLong) := goodIn_p _ [4, 7] rfl (by decide +kernel)
set_option maxRecDepth 20000 in
theorem gX9_most__X6_fill_V321 : GoodIn uX9_most (wsV RX9 321 RX6 yX6_fill uX6_fill) := goodIn_p _ [13, 18, 22] rfl (by decide +kernel)
set_option maxRecDepth 20000 in
theorem gX9_most__X6_waysTo_V324 : GoodIn uX9_most (wsV RX9 324 RX6 yX6_waysTo uX6_waysTo) := goodIn_p _ [26] rfl (by decide +kernel)
set_option maxHeartbeats 4000000 in
set_option maxRecDepth 100000 in
theorem kX9_most (l : Launch) (dC : Nat → ClassId) (dI : Nat → Nat → Nat) (h0 : Nat) (tp : Nat) (sc : Nat) (rd : Nat) (cu : Nat) (im : Nat) (ig : Nat) (sl : Nat) (se : Nat) (su : Nat) (fc : Nat) (wa : Nat) (cJ : ClassId) (f : Nat → Int64) (a1 : Int32) (a2 : Int32) (sz : Nat) : Met l yX9_most uX9_most ({ frames := 2, cells := 0, slots := 0, locals := 47 }) (va_Pc [.ref h0, .int a1, .int a2] (hw (dC, dI) vwCl [(h0, .inr (7, [.ref tp, .ref sc, .ref rd, .ref cu, .ref im, .ref ig, .ref sl, .ref se, .ref su, .ref fc])), (su, .inr (5, [.ref wa])), (wa, .inl (cJ, 181, .inr (.inl f)))] [(cJ, .long)] sz)) (va_Qi (fun (r : Int32) (_ : Unit) => r = msv a1 a2) (fun (_ : Unit) t => va_P (dC, dI) vwCl [] t.heap ∧ va_K (dC, dI) vwCl [] t ∧ va_D (va_A [(h0, .inr (7, [.ref tp, .ref sc, .ref rd, .ref cu, .ref im, .ref ig, .ref sl, .ref se, .ref su, .ref fc])), (su, .inr (5, [.ref wa])), (wa, .inl (cJ, 181, .inr (.inl f)))] sz) []) (va_A [(h0, .inr (7, [.ref tp, .ref sc, .ref rd, .ref cu, .ref im, .ref ig, .ref sl, .ref se, .ref su, .ref fc])), (su, .inr (5, [.ref wa])), (wa, .inl (cJ, 181, .inr (.inl f)))] sz)) 0 0 (va_A [(h0, .inr (7, [.ref tp, .ref sc, .ref rd, .ref cu, .ref im, .ref ig, .ref sl, .ref se, .ref su, .ref fc])), (su, .inr (5, [.ref wa])), (wa, .inl (cJ, 181, .inr (.inl f)))] sz) := by
  refine Met.ofW (cc := cX9_most) (maxL := 5) (ret := (some .int)) (by decide) rfl ?_
  intro p e s m args below meth c s₁ B hml hv
  obtain ⟨rfl, hsz, hP, hK, hD0, hN⟩ := hv
  have hx := B.exec
  have hb := B.bytes
  have hr := B.returns
  have hts := atoms_spec (ws := uX9_most) B.pre
  have hown : s.vm.findClass RX9 = some m.cls := findClass_of_methodNamed B.named
  have hlocks := B.notSynchronized
  subst hsz
  have hD := hD0.self (sz := s.heap.size)
  generalize hAe : va_A [(h0, .inr (7, [.ref tp, .ref sc, .ref rd, .ref cu, .ref im, .ref ig, .ref sl, .ref se, .ref su, .ref fc])), (su, .inr (5, [.ref wa])), (wa, .inl (cJ, 181, .inr (.inl f)))] s.heap.size = A at hD ⊢
  have hA : ∀ q : Nat, s.heap.size ≤ q → A q := fun q h => by rw [← hAe]; exact Or.inr h
  have hS : va_S A s.heap s.heap [] := va_S.rf
  have hP : va_P (dC, dI) vwCl [(h0, .inr (7, [.ref tp, .ref sc, .ref rd, .ref cu, .ref im, .ref ig, .ref sl, .ref se, .ref su, .ref fc])), (su, .inr (5, [.ref wa])), (wa, .inl (cJ, 181, .inr (.inl f)))] s.heap := hP
  have hl := lv_entry ([.ref h0, .int a1, .int a2]) (n := 5) (Nat.le_of_ble_eq_true rfl)
  rw [lg_entry_eq]
  generalize (lg_sl ([.ref h0, .int a1, .int a2]) ++ List.replicate (5 - (lg_sl ([.ref h0, .int a1, .int a2])).length) Slot.unset).toArray = ls at hl ⊢
  have hl : lv_has ls 5 [(0, .ref h0), (1, .int a1), (2, .int a2)] := hl
  refine lv_iload_n hx hb dX9_most_0 rfl (lv_at hl 1 rfl) ?_
  refine lv_iload_n hx hb dX9_most_1 rfl (lv_at hl 2 rfl) ?_
  refine vp_callSi (W.runS (As := [.int a1, .int a2]) (rest := []) ⟨hx, hb, hml, hown, hts⟩ (kX9_isLong l dC dI a1 a2) (va_cwS 2 hts gX9_most__X9_isLong_S318 rfl rfl rfl (by decide +kernel) ⟨lel 2 2 rfl, lel 43 47 rfl⟩) ⟨pn_fb, pn_use⟩ rfl rfl hl.1 rfl (lv_room (Nat.le_of_ble_eq_true rfl)) dX9_most_2 ⟨lel 0 0 rfl, lel 0 0 rfl⟩) (fun r_1 hr_1 => ?_)
  refine lv_if_ne (tgt := 11) hx hb dX9_most_5 (by decide) (fun c_2 => ?_) (fun c_2 => ?_)
  ·
    have hil : ¬ il a1 a2 = 0 := fun e => c_2 (hr_1.trans e)
    obtain ⟨nn, bb, hn1, hn2, hb2, hb3, rfl, rfl⟩ := il_yes hil
    refine lv_aload_n hx hb dX9_most_11 rfl (lv_at hl 0 rfl) ?_
    refine va_get (D := (dC, dI)) (ci := 7) (v := .ref su) (C := RX9) (T := TX9) (N := 10) hx hb hts iX9_most_X9 hown hK hP 0 rfl rfl 8 (by decide) (hts (.fieldLink RX9 64 "LuckyTicket" "sumTable" "LLuckyTicket$SumTable;") (List.mem_of_getElem? (i := 8) rfl)) (fun _ h9 => h9) rfl dX9_most_12 ?_
    refine lv_iload_n hx hb dX9_most_15 rfl (lv_at hl 1 rfl) ?_
    refine lv_iload_n hx hb dX9_most_16 rfl (lv_at hl 2 rfl) ?_
    have hFc := va_free (wc := [(su, .inr (5, [.ref wa])), (wa, .inl (cJ, 181, .inr (.inl f)))]) hD hS hA [1, 2] rfl
    refine va_callv (va_runV (As := [.int (nI nn), .int (nI bb)]) (rest := []) ⟨hx, hb, hml, hown, hts⟩ (kX6_fill l dC dI su wa cJ f nn bb (s.heap.size) (by omega) (by omega) (by omega)) (cwV 2 hts gX9_most__X6_fill_V321 rfl rfl rfl (by decide +kernel) ⟨lel 2 2 rfl, lel 47 47 rfl⟩) ⟨hw_fb, va_recv hK hP (ci := 5) (q0 := 1) rfl rfl, (hw_use hP hD hK hN [1, 2] rfl (by decide) rfl [0] rfl)⟩ rfl rfl hl.1 rfl (lv_room (Nat.le_of_ble_eq_true rfl)) dX9_most_17 ⟨lel 0 0 rfl, lel 0 0 rfl⟩) hS (fun q _ h => hFc q h) hFc (fun u_4 t H1 locs ht hvm hwr_3 hB hz1 hk1 hS => ?_)
    obtain ⟨f2_5, hf_6, hP1, hK1, hD1⟩ := hB
    rw [ht] at hP1
    have hK1 := va_K.moved hvm.symm hK1
    obtain ⟨hP, hD⟩ := va_join (wr := [(h0, .inr (7, [.ref tp, .ref sc, .ref rd, .ref cu, .ref im, .ref ig, .ref sl, .ref se, .ref su, .ref fc]))]) (w1 := [(su, .inr (5, [.ref wa])), (wa, .inl (cJ, 181, .inr (.inl f2_5)))]) hP hD [1, 2] [0] rfl rfl (by decide) (by decide) hk1 hFc hP1 hD1
    have hK := (hK.sub (tys' := []) [] rfl).app hK1
    generalize H1 = H at hP hS ⊢
    have hP : va_P (dC, dI) vwCl [(h0, .inr (7, [.ref tp, .ref sc, .ref rd, .ref cu, .ref im, .ref ig, .ref sl, .ref se, .ref su, .ref fc])), (su, .inr (5, [.ref wa])), (wa, .inl (cJ, 181, .inr (.inl f2_5)))] H := hP
    have hD : va_D A [(h0, .inr (7, [.ref tp, .ref sc, .ref rd, .ref cu, .ref im, .ref ig, .ref sl, .ref se, .ref su, .ref fc])), (su, .inr (5, [.ref wa])), (wa, .inl (cJ, 181, .inr (.inl f2_5)))] := hD
    have hK : va_K (dC, dI) vwCl [(cJ, .long)] s := hK
    refine lv_iconst (v := 0) hx hb dX9_most_20 (by decide) ?_
    refine lv_istore_n (lv' := [(3, .int 0), (0, .ref h0), (1, .int (nI nn)), (2, .int (nI bb))]) hx hb dX9_most_21 rfl hl (by decide) rfl (fun ls hl => ?_)
    refine lv_iconst (v := 1) hx hb dX9_most_22 (by decide) ?_
    refine lv_istore (lv' := [(4, .int 1), (3, .int 0), (0, .ref h0), (1, .int (nI nn)), (2, .int (nI bb))]) hx hb dX9_most_23 hl (by decide) rfl (fun ls hl => ?_)
    refine loopW (σ := Nat) (fun v => 182 - v) (fun v H locs ls => (v ≤ 180) ∧ va_P (dC, dI) vwCl [(h0, .inr (7, [.ref tp, .ref sc, .ref rd, .ref cu, .ref im, .ref ig, .ref sl, .ref se, .ref su, .ref fc])), (su, .inr (5, [.ref wa])), (wa, .inl (cJ, 181, .inr (.inl f2_5)))] H ∧ va_D A [(h0, .inr (7, [.ref tp, .ref sc, .ref rd, .ref cu, .ref im, .ref ig, .ref sl, .ref se, .ref su, .ref fc])), (su, .inr (5, [.ref wa])), (wa, .inl (cJ, 181, .inr (.inl f2_5)))] ∧ va_S A s.heap H locs ∧ lv_has ls 5 [(4, .int (nI (v + 1))), (3, .int (nI (mbs (TT 0 (bb - 1) nn) v))), (0, .ref h0), (1, .int (nI nn)), (2, .int (nI bb))]) (fun v H locs ls hI ih => ?_) 0 ⟨(show 0 ≤ 180 from Nat.zero_le _), hP, hD, hS, hl⟩
    obtain ⟨i, rfl⟩ : ∃ z, z = v := ⟨_, rfl⟩
    obtain ⟨hi, hP, hD, hS, hl⟩ := hI
    have hi : i ≤ 180 := hi
    have hP : va_P (dC, dI) vwCl [(h0, .inr (7, [.ref tp, .ref sc, .ref rd, .ref cu, .ref im, .ref ig, .ref sl, .ref se, .ref su, .ref fc])), (su, .inr (5, [.ref wa])), (wa, .inl (cJ, 181, .inr (.inl f2_5)))] H := hP
    have hD : va_D A [(h0, .inr (7, [.ref tp, .ref sc, .ref rd, .ref cu, .ref im, .ref ig, .ref sl, .ref se, .ref su, .ref fc])), (su, .inr (5, [.ref wa])), (wa, .inl (cJ, 181, .inr (.inl f2_5)))] := hD
    have hl : lv_has ls 5 [(4, .int (nI (i + 1))), (3, .int (nI (mbs (TT 0 (bb - 1) nn) i))), (0, .ref h0), (1, .int (nI nn)), (2, .int (nI bb))] := hl
    have hmb := mbs_le (TT 0 (bb - 1) nn) i
    refine lv_iload hx hb dX9_most_25 (lv_at hl 0 rfl) ?_
    refine lv_sipush (v := 180) hx hb dX9_most_27 (by decide) ?_
    refine lv_icmp_gt (tgt := 63) hx hb dX9_most_30 (by decide) (fun c_7 => ?_) (fun c_7 => ?_)
    ·
      have nc_7 : 180 < i + 1 := (nI_ltI (a := 180) (b := i + 1) (by omega) (by omega)).mp c_7
      refine lv_iload_n hx hb dX9_most_63 rfl (lv_at hl 1 rfl) ?_
      have hP9 := hP.sub (ws' := []) [] rfl
      have hD9 := hD.sub (ws' := []) [] (by decide) rfl
      have hK9 := hK.sub (tys' := []) [] rfl
      exact W.iret (v := (nI (mbs (TT 0 (bb - 1) nn) i))) hx hb hr (fun t ht hW => ⟨⟨(nI (mbs (TT 0 (bb - 1) nn) i)), (), rfl, ms_c hil hn2 hb3 (by rw [show i = 180 by omega]), by rw [ht]; exact hP9, va_K.moved hW.alike hK9, hD9⟩, hS.F ht⟩) hS.2.2 dX9_most_64
    ·
      have nc_7 : ¬ 180 < i + 1 := fun q => c_7 ((nI_ltI (a := 180) (b := i + 1) (by omega) (by omega)).mpr q)
      refine lv_aload_n hx hb dX9_most_33 rfl (lv_at hl 2 rfl) ?_
      refine va_get (D := (dC, dI)) (ci := 7) (v := .ref su) (C := RX9) (T := TX9) (N := 10) hx hb hts iX9_most_X9 hown hK hP 0 rfl rfl 8 (by decide) (hts (.fieldLink RX9 64 "LuckyTicket" "sumTable" "LLuckyTicket$SumTable;") (List.mem_of_getElem? (i := 8) rfl)) (fun _ h9 => h9) rfl dX9_most_34 ?_
      refine lv_iload hx hb dX9_most_37 (lv_at hl 0 rfl) ?_
      refine vp_callSl (W.runV (As := [.int (nI (i + 1))]) (rest := []) ⟨hx, hb, hml, hown, hts⟩ (kX6_waysTo l dC dI su wa cJ f2_5 (nI (i + 1))) (cwV 1 hts gX9_most__X6_waysTo_V324 rfl rfl rfl (by decide +kernel) ⟨lel 1 2 rfl, lel 21 47 rfl⟩) ⟨pw_fb, va_recv hK hP (ci := 5) (q0 := 1) rfl rfl, (pw_use hP hK hN [1, 2] rfl [0] rfl)⟩ rfl rfl hl.1 rfl (lv_room (Nat.le_of_ble_eq_true rfl)) dX9_most_39 ⟨lel 0 0 rfl, lel 0 0 rfl⟩) (fun r_8 hr_8 => ?_)
      refine lv_aload_n hx hb dX9_most_42 rfl (lv_at hl 2 rfl) ?_
      refine va_get (D := (dC, dI)) (ci := 7) (v := .ref su) (C := RX9) (T := TX9) (N := 10) hx hb hts iX9_most_X9 hown hK hP 0 rfl rfl 8 (by decide) (hts (.fieldLink RX9 64 "LuckyTicket" "sumTable" "LLuckyTicket$SumTable;") (List.mem_of_getElem? (i := 8) rfl)) (fun _ h9 => h9) rfl dX9_most_43 ?_
      refine lv_iload_n hx hb dX9_most_46 rfl (lv_at hl 1 rfl) ?_
      refine vp_callSl (W.runV (As := [.int (nI (mbs (TT 0 (bb - 1) nn) i))]) (rest := [.long r_8]) ⟨hx, hb, hml, hown, hts⟩ (kX6_waysTo l dC dI su wa cJ f2_5 (nI (mbs (TT 0 (bb - 1) nn) i))) (cwV 1 hts gX9_most__X6_waysTo_V324 rfl rfl rfl (by decide +kernel) ⟨lel 1 2 rfl, lel 21 47 rfl⟩) ⟨pw_fb, va_recv hK hP (ci := 5) (q0 := 1) rfl rfl, (pw_use hP hK hN [1, 2] rfl [0] rfl)⟩ rfl rfl hl.1 rfl (lv_room (Nat.le_of_ble_eq_true rfl)) dX9_most_47 ⟨lel 0 0 rfl, lel 0 0 rfl⟩) (fun r_9 hr_9 => ?_)
      refine W.lcmp hx hb dX9_most_50 ?_
      refine lv_if_le (tgt := 57) hx hb dX9_most_51 (by decide) (fun c_10 => ?_) (fun c_10 => ?_)
      ·
        obtain ⟨z_11, ez_11⟩ : ∃ y : Int32, y = nI (i + 1) + 1 := ⟨_, rfl⟩
        refine lv_iinc (v := z_11) (lv' := [(4, .int z_11), (3, .int (nI (mbs (TT 0 (bb - 1) nn) i))), (0, .ref h0), (1, .int (nI nn)), (2, .int (nI bb))]) hx hb dX9_most_57 hl (k := 0) rfl (by rw [ez_11]; rfl) (by decide) rfl (fun ls hl => ?_)
        obtain rfl : z_11 = nI ((i + 1) + 1) := ez_11.trans (nI_add (i + 1) 1)
        refine lv_goto (tgt := 25) hx hb dX9_most_60 (by decide) ?_
        have hl : lv_has ls 5 [(4, .int (nI ((i + 1) + 1))), (3, .int (nI (mbs (TT 0 (bb - 1) nn) (i + 1)))), (0, .ref h0), (1, .int (nI nn)), (2, .int (nI bb))] := by rw [mbs_0 (by rw [← wt_nat (by omega) hf_6, ← wt_nat (q := i + 1) (by omega) hf_6, ← hr_9, ← hr_8]; exact fb_not2 ((lg_cmp_le _ _).mp c_10))]; exact hl
        exact ih (i + 1) _ _ _ ⟨(show (i + 1) ≤ 180 from (by omega)), hP, hD, hS, lv_sub hl [0, 1, 2, 3, 4] rfl⟩ (show 182 - (i + 1) < 182 - i by omega)
      ·
        refine lv_iload hx hb dX9_most_54 (lv_at hl 0 rfl) ?_
        refine lv_istore_n (lv' := [(3, .int (nI (i + 1))), (4, .int (nI (i + 1))), (0, .ref h0), (1, .int (nI nn)), (2, .int (nI bb))]) hx hb dX9_most_56 rfl hl (by decide) rfl (fun ls hl => ?_)
        obtain ⟨z_12, ez_12⟩ : ∃ y : Int32, y = nI (i + 1) + 1 := ⟨_, rfl⟩
        refine lv_iinc (v := z_12) (lv' := [(4, .int z_12), (3, .int (nI (i + 1))), (0, .ref h0), (1, .int (nI nn)), (2, .int (nI bb))]) hx hb dX9_most_57 hl (k := 1) rfl (by rw [ez_12]; rfl) (by decide) rfl (fun ls hl => ?_)
        obtain rfl : z_12 = nI ((i + 1) + 1) := ez_12.trans (nI_add (i + 1) 1)
        refine lv_goto (tgt := 25) hx hb dX9_most_60 (by decide) ?_
        have hl : lv_has ls 5 [(4, .int (nI ((i + 1) + 1))), (3, .int (nI (mbs (TT 0 (bb - 1) nn) (i + 1)))), (0, .ref h0), (1, .int (nI nn)), (2, .int (nI bb))] := by rw [mbs_1 (by rw [← wt_nat (by omega) hf_6, ← wt_nat (q := i + 1) (by omega) hf_6, ← hr_9, ← hr_8]; exact fb_gt (fun q => c_10 ((lg_cmp_le _ _).mpr q)))]; exact hl
        exact ih (i + 1) _ _ _ ⟨(show (i + 1) ≤ 180 from (by omega)), hP, hD, hS, lv_sub hl [0, 1, 2, 3, 4] rfl⟩ (show 182 - (i + 1) < 182 - i by omega)
  ·
    refine lv_bipush (v := (-2)) hx hb dX9_most_8 (by decide) ?_
    have hP9 := hP.sub (ws' := []) [] rfl
    have hD9 := hD.sub (ws' := []) [] (by decide) rfl
    have hK9 := hK.sub (tys' := []) [] rfl
    exact W.iret (v := (-2)) hx hb hr (fun t ht hW => ⟨⟨(-2), (), rfl, ms_a (hr_1.symm.trans c_2), by rw [ht]; exact hP9, va_K.moved hW.alike hK9, hD9⟩, hS.F ht⟩) hS.2.2 dX9_most_10
