theorem sgl_sh {F G : Nat → Int64} {s lo s' lo' : Nat} : ∀ k, (∀ v, v < k → F (s - (lo + v)) = G (s' - (lo' + v))) → sgl F s lo k = sgl G s' lo' k
  | 0, _ => rfl
  | k + 1, h => by
    show sgl F s lo k + F (s - (lo + k)) = sgl G s' lo' k + G (s' - (lo' + k))
    rw [sgl_sh k (fun v hv => h v (by omega)), h k (by omega)]
theorem sgl_ext {F : Nat → Int64} {s lo k : Nat} : ∀ d, (∀ v, k ≤ v → v < k + d → F (s - (lo + v)) = 0) → sgl F s lo (k + d) = sgl F s lo k
  | 0, _ => rfl
  | d + 1, h => by
    show sgl F s lo (k + d) + F (s - (lo + (k + d))) = sgl F s lo k
    rw [sgl_ext d (fun v h1 h2 => h v h1 (by omega)), h (k + d) (by omega) (by omega), Int64.add_zero]
theorem TT_1 {f : Nat} (hf : 1 ≤ f) : ∀ n s, TT 1 f n s = if s < n then 0 else TT 0 (f - 1) n (s - n)
  | 0, s => by simp [TT]
  | n + 1, s => by
    show sgl (TT 1 f n) s 1 (cv 1 f s) = _
    by_cases h : s < n + 1
    · rw [if_pos h]
      refine sgl_zero _ (fun v hv => ?_)
      rw [TT_1 hf n, if_pos (by unfold cv at hv; omega)]
    · rw [if_neg h]
      show _ = sgl (TT 0 (f - 1) n) (s - (n + 1)) 0 (cv 0 (f - 1) (s - (n + 1)))
      obtain ⟨d, hd⟩ : ∃ d, cv 1 f s = cv 0 (f - 1) (s - (n + 1)) + d := ⟨cv 1 f s - cv 0 (f - 1) (s - (n + 1)), by unfold cv; omega⟩
      rw [hd, sgl_ext d (fun v h1 h2 => by
        have h3 : v < cv 1 f s := by omega
        rw [TT_1 hf n, if_pos (by unfold cv at h1 h3; omega)])]
      refine sgl_sh _ (fun v hv => ?_)
      rw [TT_1 hf n, if_neg (by unfold cv at hv; omega)]
      exact congrArg _ (by omega)
theorem dc_x {f : Nat → Int64} {n b q : Nat} (hn : n ≤ 12) (hb1 : 2 ≤ b) (hb : b ≤ 16) (hq : q ≤ 200) (h : ∀ j, j < 181 → f j = TT 0 (b - 1) n j) (hle : n ≤ q) : wt f (nI (q - n)) = TT 1 b n q := by
  rw [TT_1 (by omega), if_neg (by omega)]
  by_cases c : q - n ≤ 180
  · exact wt_nat c h
  · have e : n * (b - 1) ≤ 12 * 15 := Nat.mul_le_mul hn (by omega)
    rw [TT_out _ _ _ (show n * (b - 1) < q - n by omega)]
    exact (wt_b (nI_lt (a := 180) (b := q - n) (by omega) (by omega))).symm
theorem dc_y {f : Nat → Int64} {n b q : Nat} (hn : n ≤ 12) (hb1 : 2 ≤ b) (hle : ¬ n ≤ q) : wt f (nI q - nI n) = TT 1 b n q := by
  rw [TT_1 (by omega), if_pos (by omega)]
  exact (wt_a (pk_sneg (by omega) (by omega))).symm
theorem updLn {f : Nat → Int64} {T : Nat → Int64} {i : Nat} {x : Int64} (hx : x = T i) (h : ∀ j, j < i → f j = T j) : ∀ j, j < i + 1 → vp_updL f i x j = T j := by
  intro j hj
  by_cases e : j = i
  · rw [e, pk_uLs]; exact hx
  · rw [pk_uLn e]; exact h j (by omega)
theorem updLk {f : Nat → Int64} {T : Nat → Int64} {i : Nat} {x : Int64} (h : ∀ j, j < i → f j = T j) : ∀ j, j < i → vp_updL f i x j = T j := by
  intro j hj
  rw [pk_uLn (by omega)]; exact h j hj
theorem f3_s {g T : Nat → Int64} {q : Nat} (h : g q = T q) (hk : ∀ j, j < q → g j = T j) : ∀ j, j < q + 1 → g j = T j := by
  intro j hj
  by_cases e : j = q
  · rw [e]; exact h
  · exact hk j (by omega)
theorem dX9_dice_0 : decode cX9_dice 0 = .ok (.iload_n 1, 1) := by decide +kernel
theorem dX9_dice_1 : decode cX9_dice 1 = .ok (.iload_n 2, 1) := by decide +kernel
theorem dX9_dice_2 : decode cX9_dice 2 = .ok (.invokestatic 318, 3) := by decide +kernel
theorem dX9_dice_5 : decode cX9_dice 5 = .ok (.ifCond .eq 14, 3) := by decide +kernel
theorem dX9_dice_8 : decode cX9_dice 8 = .ok (.iload_n 3, 1) := by decide +kernel
theorem dX9_dice_9 : decode cX9_dice 9 = .ok (.iconst 0, 1) := by decide +kernel
theorem dX9_dice_10 : decode cX9_dice 10 = .ok (.sipush 200, 3) := by decide +kernel
theorem dX9_dice_13 : decode cX9_dice 13 = .ok (.invokestatic 158, 3) := by decide +kernel
theorem dX9_dice_16 : decode cX9_dice 16 = .ok (.ifCond .ne 7, 3) := by decide +kernel
theorem dX9_dice_19 : decode cX9_dice 19 = .ok (.ldc2_w 265, 3) := by decide +kernel
theorem dX9_dice_22 : decode cX9_dice 22 = .ok (.lreturn, 1) := by decide +kernel
theorem dX9_dice_23 : decode cX9_dice 23 = .ok (.aload_n 0, 1) := by decide +kernel
theorem dX9_dice_24 : decode cX9_dice 24 = .ok (.getfield 64, 3) := by decide +kernel
theorem dX9_dice_27 : decode cX9_dice 27 = .ok (.iload_n 1, 1) := by decide +kernel
theorem dX9_dice_28 : decode cX9_dice 28 = .ok (.iload_n 2, 1) := by decide +kernel
theorem dX9_dice_29 : decode cX9_dice 29 = .ok (.invokevirtual 321, 3) := by decide +kernel
theorem dX9_dice_32 : decode cX9_dice 32 = .ok (.aload_n 0, 1) := by decide +kernel
theorem dX9_dice_33 : decode cX9_dice 33 = .ok (.getfield 64, 3) := by decide +kernel
theorem dX9_dice_36 : decode cX9_dice 36 = .ok (.iload_n 3, 1) := by decide +kernel
theorem dX9_dice_37 : decode cX9_dice 37 = .ok (.iload_n 1, 1) := by decide +kernel
theorem dX9_dice_38 : decode cX9_dice 38 = .ok (.isub, 1) := by decide +kernel
theorem dX9_dice_39 : decode cX9_dice 39 = .ok (.invokevirtual 324, 3) := by decide +kernel
theorem dX9_dice_42 : decode cX9_dice 42 = .ok (.lreturn, 1) := by decide +kernel
def uX9_dice : List Cond := .code yX9_dice cX9_dice 4 (some .long) :: ([.methodLink RX9 318 yX9_isLong, .static yX9_isLong, .initialized RX9, .code yX9_isLong cX9_isLong 2 (some .boolean), .methodLink RX9 158 yX9_isWithin, .static yX9_isWithin, .code yX9_isWithin cX9_isWithin 3 (some .boolean), .constantLong RX9 265 (-2), .fieldLink RX9 64 "LuckyTicket" "sumTable" "LLuckyTicket$SumTable;", .methodLink RX9 321 yX6_fill, .instanceMethod yX6_fill, .selects RX6 yX6_fill yX6_fill, .initialized RX6, .code yX6_fill cX6_fill 4 none, .fieldLink RX6 9 "LuckyTicket$SumTable" "ways" "[J", .methodLink RX6 13 yJ7_fill_d0a16, .static yJ7_fill_d0a16, .initialized RJ7, .code yJ7_fill_d0a16 cJ7_fill_d0a16 5 none, .methodLink RX6 19 yX6_addPlace, .instanceMethod yX6_addPlace, .selects RX6 yX6_addPlace yX6_addPlace, .code yX6_addPlace cX6_addPlace 3 none, .methodLink RX9 324 yX6_waysTo, .instanceMethod yX6_waysTo, .selects RX6 yX6_waysTo yX6_waysTo, .code yX6_waysTo cX6_waysTo 2 (some .long)] ++ wsX90 ++ wsX60)
theorem iX9_dice_X9 : ∀ w ∈ wsX90, w ∈ uX9_dice := fun _ h => List.mem_cons_of_mem _ (List.mem_append_left _ (List.mem_append_right _ h))
theorem iX9_dice_X6 : ∀ w ∈ wsX60, w ∈ uX9_dice := fun _ h => List.mem_cons_of_mem _ (List.mem_append_right _ h)
set_option maxRecDepth 20000 in
theorem gX9_dice__X9_isLong_S318 : GoodIn uX9_dice (va_wsS RX9 318 yX9_isLong uX9_isLong) := goodIn_p _ [4, 7] rfl (by decide +kernel)
set_option maxRecDepth 20000 in
theorem gX9_dice__X9_isWithin_S158 : GoodIn uX9_dice (va_wsS RX9 158 yX9_isWithin uX9_isWithin) := goodIn_p _ [7] rfl (by decide +kernel)
set_option maxRecDepth 20000 in
theorem gX9_dice__X6_fill_V321 : GoodIn uX9_dice (wsV RX9 321 RX6 yX6_fill uX6_fill) := goodIn_p _ [14, 19, 23] rfl (by decide +kernel)
set_option maxRecDepth 20000 in
theorem gX9_dice__X6_waysTo_V324 : GoodIn uX9_dice (wsV RX9 324 RX6 yX6_waysTo uX6_waysTo) := goodIn_p _ [27] rfl (by decide +kernel)
set_option maxHeartbeats 4000000 in
set_option maxRecDepth 100000 in
theorem kX9_dice (l : Launch) (dC : Nat → ClassId) (dI : Nat → Nat → Nat) (h0 : Nat) (tp : Nat) (sc : Nat) (rd : Nat) (cu : Nat) (im : Nat) (ig : Nat) (sl : Nat) (se : Nat) (su : Nat) (fc : Nat) (wa : Nat) (cJ : ClassId) (f : Nat → Int64) (a1 : Int32) (a2 : Int32) (a3 : Int32) (sz : Nat) : Met l yX9_dice uX9_dice ({ frames := 2, cells := 0, slots := 0, locals := 47 }) (va_Pc [.ref h0, .int a1, .int a2, .int a3] (hw (dC, dI) vwCl [(h0, .inr (7, [.ref tp, .ref sc, .ref rd, .ref cu, .ref im, .ref ig, .ref sl, .ref se, .ref su, .ref fc])), (su, .inr (5, [.ref wa])), (wa, .inl (cJ, 181, .inr (.inl f)))] [(cJ, .long)] sz)) (va_Ql (fun (r : Int64) (_ : Unit) => r = dcv a1 a2 a3) (fun (_ : Unit) t => va_P (dC, dI) vwCl [] t.heap ∧ va_K (dC, dI) vwCl [] t ∧ va_D (va_A [(h0, .inr (7, [.ref tp, .ref sc, .ref rd, .ref cu, .ref im, .ref ig, .ref sl, .ref se, .ref su, .ref fc])), (su, .inr (5, [.ref wa])), (wa, .inl (cJ, 181, .inr (.inl f)))] sz) []) (va_A [(h0, .inr (7, [.ref tp, .ref sc, .ref rd, .ref cu, .ref im, .ref ig, .ref sl, .ref se, .ref su, .ref fc])), (su, .inr (5, [.ref wa])), (wa, .inl (cJ, 181, .inr (.inl f)))] sz)) 0 0 (va_A [(h0, .inr (7, [.ref tp, .ref sc, .ref rd, .ref cu, .ref im, .ref ig, .ref sl, .ref se, .ref su, .ref fc])), (su, .inr (5, [.ref wa])), (wa, .inl (cJ, 181, .inr (.inl f)))] sz) := by
  refine Met.ofW (cc := cX9_dice) (maxL := 4) (ret := (some .long)) (by decide) rfl ?_
  intro p e s m args below meth c s₁ B hml hv
  obtain ⟨rfl, hsz, hP, hK, hD0, hN⟩ := hv
  have hx := B.exec
  have hb := B.bytes
  have hr := B.returns
  have hts := atoms_spec (ws := uX9_dice) B.pre
  have hown : s.vm.findClass RX9 = some m.cls := findClass_of_methodNamed B.named
  have hlocks := B.notSynchronized
  subst hsz
  have hD := hD0.self (sz := s.heap.size)
  generalize hAe : va_A [(h0, .inr (7, [.ref tp, .ref sc, .ref rd, .ref cu, .ref im, .ref ig, .ref sl, .ref se, .ref su, .ref fc])), (su, .inr (5, [.ref wa])), (wa, .inl (cJ, 181, .inr (.inl f)))] s.heap.size = A at hD ⊢
  have hA : ∀ q : Nat, s.heap.size ≤ q → A q := fun q h => by rw [← hAe]; exact Or.inr h
  have hS : va_S A s.heap s.heap [] := va_S.rf
  have hP : va_P (dC, dI) vwCl [(h0, .inr (7, [.ref tp, .ref sc, .ref rd, .ref cu, .ref im, .ref ig, .ref sl, .ref se, .ref su, .ref fc])), (su, .inr (5, [.ref wa])), (wa, .inl (cJ, 181, .inr (.inl f)))] s.heap := hP
  have hl := lv_entry ([.ref h0, .int a1, .int a2, .int a3]) (n := 4) (Nat.le_of_ble_eq_true rfl)
  rw [lg_entry_eq]
  generalize (lg_sl ([.ref h0, .int a1, .int a2, .int a3]) ++ List.replicate (4 - (lg_sl ([.ref h0, .int a1, .int a2, .int a3])).length) Slot.unset).toArray = ls at hl ⊢
  have hl : lv_has ls 4 [(0, .ref h0), (1, .int a1), (2, .int a2), (3, .int a3)] := hl
  refine lv_iload_n hx hb dX9_dice_0 rfl (lv_at hl 1 rfl) ?_
  refine lv_iload_n hx hb dX9_dice_1 rfl (lv_at hl 2 rfl) ?_
  refine vp_callSi (W.runS (As := [.int a1, .int a2]) (rest := []) ⟨hx, hb, hml, hown, hts⟩ (kX9_isLong l dC dI a1 a2) (va_cwS 2 hts gX9_dice__X9_isLong_S318 rfl rfl rfl (by decide +kernel) ⟨lel 2 2 rfl, lel 43 47 rfl⟩) ⟨pn_fb, pn_use⟩ rfl rfl hl.1 rfl (lv_room (Nat.le_of_ble_eq_true rfl)) dX9_dice_2 ⟨lel 0 0 rfl, lel 0 0 rfl⟩) (fun r_1 hr_1 => ?_)
  refine lv_if_eq (tgt := 19) hx hb dX9_dice_5 (by decide) (fun c_2 => ?_) (fun c_2 => ?_)
  ·
    refine lv_ldc2 (v := (-2)) hx hb hown (hts (.constantLong RX9 265 (-2)) (List.mem_of_getElem? (i := 8) rfl)) dX9_dice_19 ?_
    have hP9 := hP.sub (ws' := []) [] rfl
    have hD9 := hD.sub (ws' := []) [] (by decide) rfl
    have hK9 := hK.sub (tys' := []) [] rfl
    exact W.lret (v := (-2)) hx hb hr (fun t ht hW => ⟨⟨(-2), (), rfl, dc_a (hr_1.symm.trans c_2), by rw [ht]; exact hP9, va_K.moved hW.alike hK9, hD9⟩, hS.F ht⟩) hS.2.2 dX9_dice_22
  ·
    refine lv_iload_n hx hb dX9_dice_8 rfl (lv_at hl 3 rfl) ?_
    refine lv_iconst (v := 0) hx hb dX9_dice_9 (by decide) ?_
    refine lv_sipush (v := 200) hx hb dX9_dice_10 (by decide) ?_
    refine vp_callSi (W.runS (As := [.int a3, .int 0, .int 200]) (rest := []) ⟨hx, hb, hml, hown, hts⟩ (kX9_isWithin l dC dI a3 0 200) (va_cwS 3 hts gX9_dice__X9_isWithin_S158 rfl rfl rfl (by decide +kernel) ⟨lel 1 2 rfl, lel 22 47 rfl⟩) ⟨pn_fb, pn_use⟩ rfl rfl hl.1 rfl (lv_room (Nat.le_of_ble_eq_true rfl)) dX9_dice_13 ⟨lel 0 0 rfl, lel 0 0 rfl⟩) (fun r_3 hr_3 => ?_)
    refine lv_if_ne (tgt := 23) hx hb dX9_dice_16 (by decide) (fun c_4 => ?_) (fun c_4 => ?_)
    ·
      have hil : ¬ il a1 a2 = 0 := fun e => c_2 (hr_1.trans e)
      have hth : ¬ wi a3 0 200 = 0 := fun e => c_4 (hr_3.trans e)
      obtain ⟨nn, bb, hn1, hn2, hb2, hb3, rfl, rfl⟩ := il_yes hil
      obtain ⟨qq, hq, rfl⟩ := wi_200 hth
      refine lv_aload_n hx hb dX9_dice_23 rfl (lv_at hl 0 rfl) ?_
      refine va_get (D := (dC, dI)) (ci := 7) (v := .ref su) (C := RX9) (T := TX9) (N := 10) hx hb hts iX9_dice_X9 hown hK hP 0 rfl rfl 8 (by decide) (hts (.fieldLink RX9 64 "LuckyTicket" "sumTable" "LLuckyTicket$SumTable;") (List.mem_of_getElem? (i := 9) rfl)) (fun _ h9 => h9) rfl dX9_dice_24 ?_
      refine lv_iload_n hx hb dX9_dice_27 rfl (lv_at hl 1 rfl) ?_
      refine lv_iload_n hx hb dX9_dice_28 rfl (lv_at hl 2 rfl) ?_
      have hFc := va_free (wc := [(su, .inr (5, [.ref wa])), (wa, .inl (cJ, 181, .inr (.inl f)))]) hD hS hA [1, 2] rfl
      refine va_callv (va_runV (As := [.int (nI nn), .int (nI bb)]) (rest := []) ⟨hx, hb, hml, hown, hts⟩ (kX6_fill l dC dI su wa cJ f nn bb (s.heap.size) (by omega) (by omega) (by omega)) (cwV 2 hts gX9_dice__X6_fill_V321 rfl rfl rfl (by decide +kernel) ⟨lel 2 2 rfl, lel 47 47 rfl⟩) ⟨hw_fb, va_recv hK hP (ci := 5) (q0 := 1) rfl rfl, (hw_use hP hD hK hN [1, 2] rfl (by decide) rfl [0] rfl)⟩ rfl rfl hl.1 rfl (lv_room (Nat.le_of_ble_eq_true rfl)) dX9_dice_29 ⟨lel 0 0 rfl, lel 0 0 rfl⟩) hS (fun q _ h => hFc q h) hFc (fun u_6 t H1 locs ht hvm hwr_5 hB hz1 hk1 hS => ?_)
      obtain ⟨f2_7, hf_8, hP1, hK1, hD1⟩ := hB
      rw [ht] at hP1
      have hK1 := va_K.moved hvm.symm hK1
      obtain ⟨hP, hD⟩ := va_join (wr := [(h0, .inr (7, [.ref tp, .ref sc, .ref rd, .ref cu, .ref im, .ref ig, .ref sl, .ref se, .ref su, .ref fc]))]) (w1 := [(su, .inr (5, [.ref wa])), (wa, .inl (cJ, 181, .inr (.inl f2_7)))]) hP hD [1, 2] [0] rfl rfl (by decide) (by decide) hk1 hFc hP1 hD1
      have hK := (hK.sub (tys' := []) [] rfl).app hK1
      generalize H1 = H at hP hS ⊢
      have hP : va_P (dC, dI) vwCl [(h0, .inr (7, [.ref tp, .ref sc, .ref rd, .ref cu, .ref im, .ref ig, .ref sl, .ref se, .ref su, .ref fc])), (su, .inr (5, [.ref wa])), (wa, .inl (cJ, 181, .inr (.inl f2_7)))] H := hP
      have hD : va_D A [(h0, .inr (7, [.ref tp, .ref sc, .ref rd, .ref cu, .ref im, .ref ig, .ref sl, .ref se, .ref su, .ref fc])), (su, .inr (5, [.ref wa])), (wa, .inl (cJ, 181, .inr (.inl f2_7)))] := hD
      have hK : va_K (dC, dI) vwCl [(cJ, .long)] s := hK
      refine lv_aload_n hx hb dX9_dice_32 rfl (lv_at hl 0 rfl) ?_
      refine va_get (D := (dC, dI)) (ci := 7) (v := .ref su) (C := RX9) (T := TX9) (N := 10) hx hb hts iX9_dice_X9 hown hK hP 0 rfl rfl 8 (by decide) (hts (.fieldLink RX9 64 "LuckyTicket" "sumTable" "LLuckyTicket$SumTable;") (List.mem_of_getElem? (i := 9) rfl)) (fun _ h9 => h9) rfl dX9_dice_33 ?_
      refine lv_iload_n hx hb dX9_dice_36 rfl (lv_at hl 3 rfl) ?_
      refine lv_iload_n hx hb dX9_dice_37 rfl (lv_at hl 1 rfl) ?_
      by_cases hle : nn ≤ qq
      ·
        refine lv_isub hx hb dX9_dice_38 ?_
        refine lv_topi (fun z_9 ez_9 => ?_)
        obtain rfl : z_9 = nI (qq - nn) := ez_9.trans (pk_sub (a := qq) (b := nn) (by omega))
        refine vp_callSl (W.runV (As := [.int (nI (qq - nn))]) (rest := []) ⟨hx, hb, hml, hown, hts⟩ (kX6_waysTo l dC dI su wa cJ f2_7 (nI (qq - nn))) (cwV 1 hts gX9_dice__X6_waysTo_V324 rfl rfl rfl (by decide +kernel) ⟨lel 1 2 rfl, lel 21 47 rfl⟩) ⟨pw_fb, va_recv hK hP (ci := 5) (q0 := 1) rfl rfl, (pw_use hP hK hN [1, 2] rfl [0] rfl)⟩ rfl rfl hl.1 rfl (lv_room (Nat.le_of_ble_eq_true rfl)) dX9_dice_39 ⟨lel 0 0 rfl, lel 0 0 rfl⟩) (fun r_10 hr_10 => ?_)
        have hP9 := hP.sub (ws' := []) [] rfl
        have hD9 := hD.sub (ws' := []) [] (by decide) rfl
        have hK9 := hK.sub (tys' := []) [] rfl
        exact W.lret (v := r_10) hx hb hr (fun t ht hW => ⟨⟨r_10, (), rfl, dc_c hil hth hn2 hb3 hq (hr_10.trans (dc_x hn2 hb2 hb3 hq hf_8 hle)), by rw [ht]; exact hP9, va_K.moved hW.alike hK9, hD9⟩, hS.F ht⟩) hS.2.2 dX9_dice_42
      ·
        refine lv_isub hx hb dX9_dice_38 ?_
        refine lv_topi (fun z_11 ez_11 => ?_)
        refine vp_callSl (W.runV (As := [.int z_11]) (rest := []) ⟨hx, hb, hml, hown, hts⟩ (kX6_waysTo l dC dI su wa cJ f2_7 z_11) (cwV 1 hts gX9_dice__X6_waysTo_V324 rfl rfl rfl (by decide +kernel) ⟨lel 1 2 rfl, lel 21 47 rfl⟩) ⟨pw_fb, va_recv hK hP (ci := 5) (q0 := 1) rfl rfl, (pw_use hP hK hN [1, 2] rfl [0] rfl)⟩ rfl rfl hl.1 rfl (lv_room (Nat.le_of_ble_eq_true rfl)) dX9_dice_39 ⟨lel 0 0 rfl, lel 0 0 rfl⟩) (fun r_12 hr_12 => ?_)
        have hP9 := hP.sub (ws' := []) [] rfl
        have hD9 := hD.sub (ws' := []) [] (by decide) rfl
        have hK9 := hK.sub (tys' := []) [] rfl
        exact W.lret (v := r_12) hx hb hr (fun t ht hW => ⟨⟨r_12, (), rfl, dc_c hil hth hn2 hb3 hq ((hr_12.trans (by rw [ez_11])).trans (dc_y hn2 hb2 hle)), by rw [ht]; exact hP9, va_K.moved hW.alike hK9, hD9⟩, hS.F ht⟩) hS.2.2 dX9_dice_42
    ·
      refine lv_ldc2 (v := (-2)) hx hb hown (hts (.constantLong RX9 265 (-2)) (List.mem_of_getElem? (i := 8) rfl)) dX9_dice_19 ?_
      have hP9 := hP.sub (ws' := []) [] rfl
      have hD9 := hD.sub (ws' := []) [] (by decide) rfl
      have hK9 := hK.sub (tys' := []) [] rfl
      exact W.lret (v := (-2)) hx hb hr (fun t ht hW => ⟨⟨(-2), (), rfl, dc_b (hr_3.symm.trans c_4), by rw [ht]; exact hP9, va_K.moved hW.alike hK9, hD9⟩, hS.F ht⟩) hS.2.2 dX9_dice_22
theorem dX10_fillWays_0 : decode cX10_fillWays 0 = .ok (.iconst 0, 1) := by decide +kernel
theorem dX10_fillWays_1 : decode cX10_fillWays 1 = .ok (.istore 4, 2) := by decide +kernel
theorem dX10_fillWays_3 : decode cX10_fillWays 3 = .ok (.iload 4, 2) := by decide +kernel
theorem dX10_fillWays_5 : decode cX10_fillWays 5 = .ok (.sipush 201, 3) := by decide +kernel
theorem dX10_fillWays_8 : decode cX10_fillWays 8 = .ok (.if_icmp .ge 26, 3) := by decide +kernel
theorem dX10_fillWays_11 : decode cX10_fillWays 11 = .ok (.aload_n 0, 1) := by decide +kernel
theorem dX10_fillWays_12 : decode cX10_fillWays 12 = .ok (.getfield 58, 3) := by decide +kernel
theorem dX10_fillWays_15 : decode cX10_fillWays 15 = .ok (.iload 4, 2) := by decide +kernel
theorem dX10_fillWays_17 : decode cX10_fillWays 17 = .ok (.iload 4, 2) := by decide +kernel
theorem dX10_fillWays_19 : decode cX10_fillWays 19 = .ok (.ifCond .ne 7, 3) := by decide +kernel
theorem dX10_fillWays_22 : decode cX10_fillWays 22 = .ok (.lconst 1, 1) := by decide +kernel
theorem dX10_fillWays_23 : decode cX10_fillWays 23 = .ok (.goto 4, 3) := by decide +kernel
theorem dX10_fillWays_26 : decode cX10_fillWays 26 = .ok (.lconst 0, 1) := by decide +kernel
theorem dX10_fillWays_27 : decode cX10_fillWays 27 = .ok (.lastore, 1) := by decide +kernel
theorem dX10_fillWays_28 : decode cX10_fillWays 28 = .ok (.iinc 4 1, 3) := by decide +kernel
theorem dX10_fillWays_31 : decode cX10_fillWays 31 = .ok (.goto (-28), 3) := by decide +kernel
theorem dX10_fillWays_34 : decode cX10_fillWays 34 = .ok (.iconst 0, 1) := by decide +kernel
theorem dX10_fillWays_35 : decode cX10_fillWays 35 = .ok (.istore 4, 2) := by decide +kernel
theorem dX10_fillWays_37 : decode cX10_fillWays 37 = .ok (.iload 4, 2) := by decide +kernel
theorem dX10_fillWays_39 : decode cX10_fillWays 39 = .ok (.iload_n 1, 1) := by decide +kernel
theorem dX10_fillWays_40 : decode cX10_fillWays 40 = .ok (.if_icmp .ge 107, 3) := by decide +kernel
theorem dX10_fillWays_43 : decode cX10_fillWays 43 = .ok (.iconst 0, 1) := by decide +kernel
theorem dX10_fillWays_44 : decode cX10_fillWays 44 = .ok (.istore 5, 2) := by decide +kernel
theorem dX10_fillWays_46 : decode cX10_fillWays 46 = .ok (.iload 5, 2) := by decide +kernel
theorem dX10_fillWays_48 : decode cX10_fillWays 48 = .ok (.sipush 201, 3) := by decide +kernel
theorem dX10_fillWays_51 : decode cX10_fillWays 51 = .ok (.if_icmp .ge 59, 3) := by decide +kernel
theorem dX10_fillWays_54 : decode cX10_fillWays 54 = .ok (.aload_n 0, 1) := by decide +kernel
theorem dX10_fillWays_55 : decode cX10_fillWays 55 = .ok (.getfield 62, 3) := by decide +kernel
theorem dX10_fillWays_58 : decode cX10_fillWays 58 = .ok (.iload 5, 2) := by decide +kernel
theorem dX10_fillWays_60 : decode cX10_fillWays 60 = .ok (.lconst 0, 1) := by decide +kernel
theorem dX10_fillWays_61 : decode cX10_fillWays 61 = .ok (.lastore, 1) := by decide +kernel
theorem dX10_fillWays_62 : decode cX10_fillWays 62 = .ok (.iload_n 2, 1) := by decide +kernel
theorem dX10_fillWays_63 : decode cX10_fillWays 63 = .ok (.istore 6, 2) := by decide +kernel
theorem dX10_fillWays_65 : decode cX10_fillWays 65 = .ok (.iload 6, 2) := by decide +kernel
theorem dX10_fillWays_67 : decode cX10_fillWays 67 = .ok (.iload_n 3, 1) := by decide +kernel
theorem dX10_fillWays_68 : decode cX10_fillWays 68 = .ok (.if_icmp .gt 36, 3) := by decide +kernel
theorem dX10_fillWays_71 : decode cX10_fillWays 71 = .ok (.iload 6, 2) := by decide +kernel
theorem dX10_fillWays_73 : decode cX10_fillWays 73 = .ok (.iload 5, 2) := by decide +kernel
theorem dX10_fillWays_75 : decode cX10_fillWays 75 = .ok (.if_icmp .gt 29, 3) := by decide +kernel
theorem dX10_fillWays_78 : decode cX10_fillWays 78 = .ok (.aload_n 0, 1) := by decide +kernel
theorem dX10_fillWays_79 : decode cX10_fillWays 79 = .ok (.getfield 62, 3) := by decide +kernel
theorem dX10_fillWays_82 : decode cX10_fillWays 82 = .ok (.iload 5, 2) := by decide +kernel
theorem dX10_fillWays_84 : decode cX10_fillWays 84 = .ok (.dup2, 1) := by decide +kernel
theorem dX10_fillWays_85 : decode cX10_fillWays 85 = .ok (.laload, 1) := by decide +kernel
theorem dX10_fillWays_86 : decode cX10_fillWays 86 = .ok (.aload_n 0, 1) := by decide +kernel
theorem dX10_fillWays_87 : decode cX10_fillWays 87 = .ok (.getfield 58, 3) := by decide +kernel
theorem dX10_fillWays_90 : decode cX10_fillWays 90 = .ok (.iload 5, 2) := by decide +kernel
theorem dX10_fillWays_92 : decode cX10_fillWays 92 = .ok (.iload 6, 2) := by decide +kernel
theorem dX10_fillWays_94 : decode cX10_fillWays 94 = .ok (.isub, 1) := by decide +kernel
theorem dX10_fillWays_95 : decode cX10_fillWays 95 = .ok (.laload, 1) := by decide +kernel
theorem dX10_fillWays_96 : decode cX10_fillWays 96 = .ok (.ladd, 1) := by decide +kernel
theorem dX10_fillWays_97 : decode cX10_fillWays 97 = .ok (.lastore, 1) := by decide +kernel
theorem dX10_fillWays_98 : decode cX10_fillWays 98 = .ok (.iinc 6 1, 3) := by decide +kernel
theorem dX10_fillWays_101 : decode cX10_fillWays 101 = .ok (.goto (-36), 3) := by decide +kernel
theorem dX10_fillWays_104 : decode cX10_fillWays 104 = .ok (.iinc 5 1, 3) := by decide +kernel
theorem dX10_fillWays_107 : decode cX10_fillWays 107 = .ok (.goto (-61), 3) := by decide +kernel
theorem dX10_fillWays_110 : decode cX10_fillWays 110 = .ok (.iconst 0, 1) := by decide +kernel
theorem dX10_fillWays_111 : decode cX10_fillWays 111 = .ok (.istore 5, 2) := by decide +kernel
theorem dX10_fillWays_113 : decode cX10_fillWays 113 = .ok (.iload 5, 2) := by decide +kernel
theorem dX10_fillWays_115 : decode cX10_fillWays 115 = .ok (.sipush 201, 3) := by decide +kernel
theorem dX10_fillWays_118 : decode cX10_fillWays 118 = .ok (.if_icmp .ge 23, 3) := by decide +kernel
theorem dX10_fillWays_121 : decode cX10_fillWays 121 = .ok (.aload_n 0, 1) := by decide +kernel
theorem dX10_fillWays_122 : decode cX10_fillWays 122 = .ok (.getfield 58, 3) := by decide +kernel
theorem dX10_fillWays_125 : decode cX10_fillWays 125 = .ok (.iload 5, 2) := by decide +kernel
theorem dX10_fillWays_127 : decode cX10_fillWays 127 = .ok (.aload_n 0, 1) := by decide +kernel
theorem dX10_fillWays_128 : decode cX10_fillWays 128 = .ok (.getfield 62, 3) := by decide +kernel
theorem dX10_fillWays_131 : decode cX10_fillWays 131 = .ok (.iload 5, 2) := by decide +kernel
theorem dX10_fillWays_133 : decode cX10_fillWays 133 = .ok (.laload, 1) := by decide +kernel
theorem dX10_fillWays_134 : decode cX10_fillWays 134 = .ok (.lastore, 1) := by decide +kernel
theorem dX10_fillWays_135 : decode cX10_fillWays 135 = .ok (.iinc 5 1, 3) := by decide +kernel
theorem dX10_fillWays_138 : decode cX10_fillWays 138 = .ok (.goto (-25), 3) := by decide +kernel
theorem dX10_fillWays_141 : decode cX10_fillWays 141 = .ok (.iinc 4 1, 3) := by decide +kernel
theorem dX10_fillWays_144 : decode cX10_fillWays 144 = .ok (.goto (-107), 3) := by decide +kernel
theorem dX10_fillWays_147 : decode cX10_fillWays 147 = .ok (.return_, 1) := by decide +kernel
def uX10_fillWays : List Cond := .code yX10_fillWays cX10_fillWays 7 none :: ([.fieldLink RX10 58 "LuckyTicketModel" "ways" "[J", .fieldLink RX10 62 "LuckyTicketModel" "waysOn" "[J"] ++ wsX100)
theorem iX10_fillWays_X10 : ∀ w ∈ wsX100, w ∈ uX10_fillWays := fun _ h => List.mem_cons_of_mem _ (List.mem_append_right _ h)
set_option maxHeartbeats 4000000 in
set_option maxRecDepth 100000 in
theorem kX10_fillWays (l : Launch) (dC : Nat → ClassId) (dI : Nat → Nat → Nat) (h0 : Nat) (m_world : Nat) (m_images : Nat) (m_hasImage : Nat) (m_luck : Nat) (m_tape : Nat) (m_five : Nat) (m_fresh : Nat) (m_waits : Nat) (m_figures : Nat) (m_pile : Nat) (m_times : Nat) (m_far : Nat) (m_queue : Nat) (m_months : Nat) (m_ways : Nat) (m_waysOn : Nat) (m_many : Nat) (m_width : Nat) (m_numbers : Nat) (m_moving : Nat) (cJ : ClassId) (cK : ClassId) (f : Nat → Int64) (g : Nat → Int64) (nn : Nat) (lo : Nat) (hh : Nat) (sz : Nat) (hn : nn ≤ 12) (hlo : lo ≤ 1) (hh1 : hh ≤ 16) : Met l yX10_fillWays uX10_fillWays ({ frames := 0, cells := 0, slots := 0, locals := 0 }) (va_Pc [.ref h0, .int (nI nn), .int (nI lo), .int (nI hh)] (hw (dC, dI) vwCl [(h0, .inr (8, [.int 0, .ref m_world, .ref m_images, .ref m_hasImage, .ref m_luck, .ref m_tape, .int 0, .ref m_five, .int 0, .int 0, .int 0, .int 0, .int 0, .int 0, .int (-1), .ref m_fresh, .ref m_waits, .int 0, .int 0, .int 0, .ref m_figures, .ref m_pile, .long 0, .ref m_times, .ref m_far, .ref m_queue, .ref m_months, .ref m_ways, .ref m_waysOn, .ref m_many, .ref m_width, .ref m_numbers, .ref m_moving])), (m_ways, .inl (cJ, 201, .inr (.inl f))), (m_waysOn, .inl (cK, 201, .inr (.inl g)))] [(cJ, .long), (cK, .long)] sz)) (va_Qv (fun (_ : Unit) => True) (fun (_ : Unit) t => ∃ (f9 : Nat → Int64) (g9 : Nat → Int64), (∀ j, j < 201 → f9 j = TT lo hh nn j) ∧ va_P (dC, dI) vwCl [(h0, .inr (8, [.int 0, .ref m_world, .ref m_images, .ref m_hasImage, .ref m_luck, .ref m_tape, .int 0, .ref m_five, .int 0, .int 0, .int 0, .int 0, .int 0, .int 0, .int (-1), .ref m_fresh, .ref m_waits, .int 0, .int 0, .int 0, .ref m_figures, .ref m_pile, .long 0, .ref m_times, .ref m_far, .ref m_queue, .ref m_months, .ref m_ways, .ref m_waysOn, .ref m_many, .ref m_width, .ref m_numbers, .ref m_moving])), (m_ways, .inl (cJ, 201, .inr (.inl f9))), (m_waysOn, .inl (cK, 201, .inr (.inl g9)))] t.heap ∧ va_K (dC, dI) vwCl [(cJ, .long), (cK, .long)] t ∧ va_D (va_A [(h0, .inr (8, [.int 0, .ref m_world, .ref m_images, .ref m_hasImage, .ref m_luck, .ref m_tape, .int 0, .ref m_five, .int 0, .int 0, .int 0, .int 0, .int 0, .int 0, .int (-1), .ref m_fresh, .ref m_waits, .int 0, .int 0, .int 0, .ref m_figures, .ref m_pile, .long 0, .ref m_times, .ref m_far, .ref m_queue, .ref m_months, .ref m_ways, .ref m_waysOn, .ref m_many, .ref m_width, .ref m_numbers, .ref m_moving])), (m_ways, .inl (cJ, 201, .inr (.inl f))), (m_waysOn, .inl (cK, 201, .inr (.inl g)))] sz) [(h0, .inr (8, [.int 0, .ref m_world, .ref m_images, .ref m_hasImage, .ref m_luck, .ref m_tape, .int 0, .ref m_five, .int 0, .int 0, .int 0, .int 0, .int 0, .int 0, .int (-1), .ref m_fresh, .ref m_waits, .int 0, .int 0, .int 0, .ref m_figures, .ref m_pile, .long 0, .ref m_times, .ref m_far, .ref m_queue, .ref m_months, .ref m_ways, .ref m_waysOn, .ref m_many, .ref m_width, .ref m_numbers, .ref m_moving])), (m_ways, .inl (cJ, 201, .inr (.inl f9))), (m_waysOn, .inl (cK, 201, .inr (.inl g9)))]) (va_A [(h0, .inr (8, [.int 0, .ref m_world, .ref m_images, .ref m_hasImage, .ref m_luck, .ref m_tape, .int 0, .ref m_five, .int 0, .int 0, .int 0, .int 0, .int 0, .int 0, .int (-1), .ref m_fresh, .ref m_waits, .int 0, .int 0, .int 0, .ref m_figures, .ref m_pile, .long 0, .ref m_times, .ref m_far, .ref m_queue, .ref m_months, .ref m_ways, .ref m_waysOn, .ref m_many, .ref m_width, .ref m_numbers, .ref m_moving])), (m_ways, .inl (cJ, 201, .inr (.inl f))), (m_waysOn, .inl (cK, 201, .inr (.inl g)))] sz)) 0 0 (va_A [(h0, .inr (8, [.int 0, .ref m_world, .ref m_images, .ref m_hasImage, .ref m_luck, .ref m_tape, .int 0, .ref m_five, .int 0, .int 0, .int 0, .int 0, .int 0, .int 0, .int (-1), .ref m_fresh, .ref m_waits, .int 0, .int 0, .int 0, .ref m_figures, .ref m_pile, .long 0, .ref m_times, .ref m_far, .ref m_queue, .ref m_months, .ref m_ways, .ref m_waysOn, .ref m_many, .ref m_width, .ref m_numbers, .ref m_moving])), (m_ways, .inl (cJ, 201, .inr (.inl f))), (m_waysOn, .inl (cK, 201, .inr (.inl g)))] sz) := by
  refine Met.ofW (cc := cX10_fillWays) (maxL := 7) (ret := none) (by decide) rfl ?_
  intro p e s m args below meth c s₁ B hml hv
  obtain ⟨rfl, hsz, hP, hK, hD0, hN⟩ := hv
  have hx := B.exec
  have hb := B.bytes
  have hr := B.returns
  have hts := atoms_spec (ws := uX10_fillWays) B.pre
  have hown : s.vm.findClass RX10 = some m.cls := findClass_of_methodNamed B.named
  have hlocks := B.notSynchronized
  subst hsz
  have hD := hD0.self (sz := s.heap.size)
  generalize hAe : va_A [(h0, .inr (8, [.int 0, .ref m_world, .ref m_images, .ref m_hasImage, .ref m_luck, .ref m_tape, .int 0, .ref m_five, .int 0, .int 0, .int 0, .int 0, .int 0, .int 0, .int (-1), .ref m_fresh, .ref m_waits, .int 0, .int 0, .int 0, .ref m_figures, .ref m_pile, .long 0, .ref m_times, .ref m_far, .ref m_queue, .ref m_months, .ref m_ways, .ref m_waysOn, .ref m_many, .ref m_width, .ref m_numbers, .ref m_moving])), (m_ways, .inl (cJ, 201, .inr (.inl f))), (m_waysOn, .inl (cK, 201, .inr (.inl g)))] s.heap.size = A at hD ⊢
  have hA : ∀ q : Nat, s.heap.size ≤ q → A q := fun q h => by rw [← hAe]; exact Or.inr h
  have hS : va_S A s.heap s.heap [] := va_S.rf
  have hP : va_P (dC, dI) vwCl [(h0, .inr (8, [.int 0, .ref m_world, .ref m_images, .ref m_hasImage, .ref m_luck, .ref m_tape, .int 0, .ref m_five, .int 0, .int 0, .int 0, .int 0, .int 0, .int 0, .int (-1), .ref m_fresh, .ref m_waits, .int 0, .int 0, .int 0, .ref m_figures, .ref m_pile, .long 0, .ref m_times, .ref m_far, .ref m_queue, .ref m_months, .ref m_ways, .ref m_waysOn, .ref m_many, .ref m_width, .ref m_numbers, .ref m_moving])), (m_ways, .inl (cJ, 201, .inr (.inl f))), (m_waysOn, .inl (cK, 201, .inr (.inl g)))] s.heap := hP
  have hl := lv_entry ([.ref h0, .int (nI nn), .int (nI lo), .int (nI hh)]) (n := 7) (Nat.le_of_ble_eq_true rfl)
  rw [lg_entry_eq]
  generalize (lg_sl ([.ref h0, .int (nI nn), .int (nI lo), .int (nI hh)]) ++ List.replicate (7 - (lg_sl ([.ref h0, .int (nI nn), .int (nI lo), .int (nI hh)])).length) Slot.unset).toArray = ls at hl ⊢
  have hl : lv_has ls 7 [(0, .ref h0), (1, .int (nI nn)), (2, .int (nI lo)), (3, .int (nI hh))] := hl
  refine lv_iconst (v := 0) hx hb dX10_fillWays_0 (by decide) ?_
  refine lv_istore (lv' := [(4, .int 0), (0, .ref h0), (1, .int (nI nn)), (2, .int (nI lo)), (3, .int (nI hh))]) hx hb dX10_fillWays_1 hl (by decide) rfl (fun ls hl => ?_)
  refine loopW (σ := Nat × (Nat → Int64)) (fun v => 202 - v.1) (fun v H locs ls => (v.1 ≤ 201) ∧ (∀ j, j < v.1 → v.2 j = TT lo hh 0 j) ∧ va_P (dC, dI) vwCl [(h0, .inr (8, [.int 0, .ref m_world, .ref m_images, .ref m_hasImage, .ref m_luck, .ref m_tape, .int 0, .ref m_five, .int 0, .int 0, .int 0, .int 0, .int 0, .int 0, .int (-1), .ref m_fresh, .ref m_waits, .int 0, .int 0, .int 0, .ref m_figures, .ref m_pile, .long 0, .ref m_times, .ref m_far, .ref m_queue, .ref m_months, .ref m_ways, .ref m_waysOn, .ref m_many, .ref m_width, .ref m_numbers, .ref m_moving])), (m_ways, .inl (cJ, 201, .inr (.inl v.2))), (m_waysOn, .inl (cK, 201, .inr (.inl g)))] H ∧ va_D A [(h0, .inr (8, [.int 0, .ref m_world, .ref m_images, .ref m_hasImage, .ref m_luck, .ref m_tape, .int 0, .ref m_five, .int 0, .int 0, .int 0, .int 0, .int 0, .int 0, .int (-1), .ref m_fresh, .ref m_waits, .int 0, .int 0, .int 0, .ref m_figures, .ref m_pile, .long 0, .ref m_times, .ref m_far, .ref m_queue, .ref m_months, .ref m_ways, .ref m_waysOn, .ref m_many, .ref m_width, .ref m_numbers, .ref m_moving])), (m_ways, .inl (cJ, 201, .inr (.inl v.2))), (m_waysOn, .inl (cK, 201, .inr (.inl g)))] ∧ va_S A s.heap H locs ∧ lv_has ls 7 [(4, .int (nI v.1)), (0, .ref h0), (1, .int (nI nn)), (2, .int (nI lo)), (3, .int (nI hh))]) (fun v H locs ls hI ih_3 => ?_) (0, f) ⟨(show 0 ≤ 201 from Nat.zero_le _), (show ∀ j, j < 0 → f j = TT lo hh 0 j from (fun j hj => absurd hj (Nat.not_lt_zero j))), hP, hD, hS, hl⟩
  obtain ⟨i, f1⟩ := v
  obtain ⟨hi, hA, hP, hD, hS, hl⟩ := hI
  have hi : i ≤ 201 := hi
  have hA : ∀ j, j < i → f1 j = TT lo hh 0 j := hA
  have hP : va_P (dC, dI) vwCl [(h0, .inr (8, [.int 0, .ref m_world, .ref m_images, .ref m_hasImage, .ref m_luck, .ref m_tape, .int 0, .ref m_five, .int 0, .int 0, .int 0, .int 0, .int 0, .int 0, .int (-1), .ref m_fresh, .ref m_waits, .int 0, .int 0, .int 0, .ref m_figures, .ref m_pile, .long 0, .ref m_times, .ref m_far, .ref m_queue, .ref m_months, .ref m_ways, .ref m_waysOn, .ref m_many, .ref m_width, .ref m_numbers, .ref m_moving])), (m_ways, .inl (cJ, 201, .inr (.inl f1))), (m_waysOn, .inl (cK, 201, .inr (.inl g)))] H := hP
  have hD : va_D A [(h0, .inr (8, [.int 0, .ref m_world, .ref m_images, .ref m_hasImage, .ref m_luck, .ref m_tape, .int 0, .ref m_five, .int 0, .int 0, .int 0, .int 0, .int 0, .int 0, .int (-1), .ref m_fresh, .ref m_waits, .int 0, .int 0, .int 0, .ref m_figures, .ref m_pile, .long 0, .ref m_times, .ref m_far, .ref m_queue, .ref m_months, .ref m_ways, .ref m_waysOn, .ref m_many, .ref m_width, .ref m_numbers, .ref m_moving])), (m_ways, .inl (cJ, 201, .inr (.inl f1))), (m_waysOn, .inl (cK, 201, .inr (.inl g)))] := hD
  have hl : lv_has ls 7 [(4, .int (nI i)), (0, .ref h0), (1, .int (nI nn)), (2, .int (nI lo)), (3, .int (nI hh))] := hl
  refine lv_iload hx hb dX10_fillWays_3 (lv_at hl 0 rfl) ?_
  refine lv_sipush (v := 201) hx hb dX10_fillWays_5 (by decide) ?_
  refine lv_icmp_ge (tgt := 34) hx hb dX10_fillWays_8 (by decide) (fun c_1 => ?_) (fun c_1 => ?_)
  ·
    have nc_1 : 201 ≤ i := (nI_leI (a := 201) (b := i) (by omega) (by omega)).mp c_1
    refine lv_iconst (v := 0) hx hb dX10_fillWays_34 (by decide) ?_
    refine lv_istore (lv' := [(4, .int 0), (0, .ref h0), (1, .int (nI nn)), (2, .int (nI lo)), (3, .int (nI hh))]) hx hb dX10_fillWays_35 hl (by decide) rfl (fun ls hl => ?_)
    refine loopW (σ := Nat × (Nat → Int64) × (Nat → Int64)) (fun v => 13 - v.1) (fun v H locs ls => (v.1 ≤ nn) ∧ (∀ j, j < 201 → v.2.1 j = TT lo hh v.1 j) ∧ va_P (dC, dI) vwCl [(h0, .inr (8, [.int 0, .ref m_world, .ref m_images, .ref m_hasImage, .ref m_luck, .ref m_tape, .int 0, .ref m_five, .int 0, .int 0, .int 0, .int 0, .int 0, .int 0, .int (-1), .ref m_fresh, .ref m_waits, .int 0, .int 0, .int 0, .ref m_figures, .ref m_pile, .long 0, .ref m_times, .ref m_far, .ref m_queue, .ref m_months, .ref m_ways, .ref m_waysOn, .ref m_many, .ref m_width, .ref m_numbers, .ref m_moving])), (m_ways, .inl (cJ, 201, .inr (.inl v.2.1))), (m_waysOn, .inl (cK, 201, .inr (.inl v.2.2)))] H ∧ va_D A [(h0, .inr (8, [.int 0, .ref m_world, .ref m_images, .ref m_hasImage, .ref m_luck, .ref m_tape, .int 0, .ref m_five, .int 0, .int 0, .int 0, .int 0, .int 0, .int 0, .int (-1), .ref m_fresh, .ref m_waits, .int 0, .int 0, .int 0, .ref m_figures, .ref m_pile, .long 0, .ref m_times, .ref m_far, .ref m_queue, .ref m_months, .ref m_ways, .ref m_waysOn, .ref m_many, .ref m_width, .ref m_numbers, .ref m_moving])), (m_ways, .inl (cJ, 201, .inr (.inl v.2.1))), (m_waysOn, .inl (cK, 201, .inr (.inl v.2.2)))] ∧ va_S A s.heap H locs ∧ lv_has ls 7 [(4, .int (nI v.1)), (0, .ref h0), (1, .int (nI nn)), (2, .int (nI lo)), (3, .int (nI hh))]) (fun v H locs ls hI ih_37 => ?_) (0, f1, g) ⟨(show 0 ≤ nn from Nat.zero_le _), (show ∀ j, j < 201 → f1 j = TT lo hh 0 j from (fun j hj => hA j (by omega))), hP, hD, hS, hl⟩
    obtain ⟨k, f2, g2⟩ := v
    obtain ⟨hk, hT2, hP, hD, hS, hl⟩ := hI
    have hk : k ≤ nn := hk
    have hT2 : ∀ j, j < 201 → f2 j = TT lo hh k j := hT2
    have hP : va_P (dC, dI) vwCl [(h0, .inr (8, [.int 0, .ref m_world, .ref m_images, .ref m_hasImage, .ref m_luck, .ref m_tape, .int 0, .ref m_five, .int 0, .int 0, .int 0, .int 0, .int 0, .int 0, .int (-1), .ref m_fresh, .ref m_waits, .int 0, .int 0, .int 0, .ref m_figures, .ref m_pile, .long 0, .ref m_times, .ref m_far, .ref m_queue, .ref m_months, .ref m_ways, .ref m_waysOn, .ref m_many, .ref m_width, .ref m_numbers, .ref m_moving])), (m_ways, .inl (cJ, 201, .inr (.inl f2))), (m_waysOn, .inl (cK, 201, .inr (.inl g2)))] H := hP
    have hD : va_D A [(h0, .inr (8, [.int 0, .ref m_world, .ref m_images, .ref m_hasImage, .ref m_luck, .ref m_tape, .int 0, .ref m_five, .int 0, .int 0, .int 0, .int 0, .int 0, .int 0, .int (-1), .ref m_fresh, .ref m_waits, .int 0, .int 0, .int 0, .ref m_figures, .ref m_pile, .long 0, .ref m_times, .ref m_far, .ref m_queue, .ref m_months, .ref m_ways, .ref m_waysOn, .ref m_many, .ref m_width, .ref m_numbers, .ref m_moving])), (m_ways, .inl (cJ, 201, .inr (.inl f2))), (m_waysOn, .inl (cK, 201, .inr (.inl g2)))] := hD
    have hl : lv_has ls 7 [(4, .int (nI k)), (0, .ref h0), (1, .int (nI nn)), (2, .int (nI lo)), (3, .int (nI hh))] := hl
    refine lv_iload hx hb dX10_fillWays_37 (lv_at hl 0 rfl) ?_
    refine lv_iload_n hx hb dX10_fillWays_39 rfl (lv_at hl 2 rfl) ?_
    refine lv_icmp_ge (tgt := 147) hx hb dX10_fillWays_40 (by decide) (fun c_2 => ?_) (fun c_2 => ?_)
    ·
      have nc_2 : nn ≤ k := (nI_leI (a := nn) (b := k) (by omega) (by omega)).mp c_2
      have hP9 := hP.sub (ws' := [(h0, .inr (8, [.int 0, .ref m_world, .ref m_images, .ref m_hasImage, .ref m_luck, .ref m_tape, .int 0, .ref m_five, .int 0, .int 0, .int 0, .int 0, .int 0, .int 0, .int (-1), .ref m_fresh, .ref m_waits, .int 0, .int 0, .int 0, .ref m_figures, .ref m_pile, .long 0, .ref m_times, .ref m_far, .ref m_queue, .ref m_months, .ref m_ways, .ref m_waysOn, .ref m_many, .ref m_width, .ref m_numbers, .ref m_moving])), (m_ways, .inl (cJ, 201, .inr (.inl f2))), (m_waysOn, .inl (cK, 201, .inr (.inl g2)))]) [0, 1, 2] rfl
      have hD9 := hD.sub (ws' := [(h0, .inr (8, [.int 0, .ref m_world, .ref m_images, .ref m_hasImage, .ref m_luck, .ref m_tape, .int 0, .ref m_five, .int 0, .int 0, .int 0, .int 0, .int 0, .int 0, .int (-1), .ref m_fresh, .ref m_waits, .int 0, .int 0, .int 0, .ref m_figures, .ref m_pile, .long 0, .ref m_times, .ref m_far, .ref m_queue, .ref m_months, .ref m_ways, .ref m_waysOn, .ref m_many, .ref m_width, .ref m_numbers, .ref m_moving])), (m_ways, .inl (cJ, 201, .inr (.inl f2))), (m_waysOn, .inl (cK, 201, .inr (.inl g2)))]) [0, 1, 2] (by decide) rfl
      have hK9 := hK.sub (tys' := [(cJ, .long), (cK, .long)]) [0, 1] rfl
      exact W.vret hx hb hr (fun t ht hW => ⟨⟨(), rfl, trivial, f2, g2, (by rw [← show k = nn by omega]; exact hT2), by rw [ht]; exact hP9, va_K.moved hW.alike hK9, hD9⟩, hS.F ht⟩) hS.2.2 dX10_fillWays_147
    ·
      have nc_2 : ¬ nn ≤ k := fun q9 => c_2 ((nI_leI (a := nn) (b := k) (by omega) (by omega)).mpr q9)
      refine lv_iconst (v := 0) hx hb dX10_fillWays_43 (by decide) ?_
      refine lv_istore (lv' := [(5, .int 0), (4, .int (nI k)), (0, .ref h0), (1, .int (nI nn)), (2, .int (nI lo)), (3, .int (nI hh))]) hx hb dX10_fillWays_44 hl (by decide) rfl (fun ls hl => ?_)
      refine loopW (σ := Nat × (Nat → Int64)) (fun v => 202 - v.1) (fun v H locs ls => (v.1 ≤ 201) ∧ (∀ j, j < v.1 → v.2 j = TT lo hh (k + 1) j) ∧ va_P (dC, dI) vwCl [(h0, .inr (8, [.int 0, .ref m_world, .ref m_images, .ref m_hasImage, .ref m_luck, .ref m_tape, .int 0, .ref m_five, .int 0, .int 0, .int 0, .int 0, .int 0, .int 0, .int (-1), .ref m_fresh, .ref m_waits, .int 0, .int 0, .int 0, .ref m_figures, .ref m_pile, .long 0, .ref m_times, .ref m_far, .ref m_queue, .ref m_months, .ref m_ways, .ref m_waysOn, .ref m_many, .ref m_width, .ref m_numbers, .ref m_moving])), (m_ways, .inl (cJ, 201, .inr (.inl f2))), (m_waysOn, .inl (cK, 201, .inr (.inl v.2)))] H ∧ va_D A [(h0, .inr (8, [.int 0, .ref m_world, .ref m_images, .ref m_hasImage, .ref m_luck, .ref m_tape, .int 0, .ref m_five, .int 0, .int 0, .int 0, .int 0, .int 0, .int 0, .int (-1), .ref m_fresh, .ref m_waits, .int 0, .int 0, .int 0, .ref m_figures, .ref m_pile, .long 0, .ref m_times, .ref m_far, .ref m_queue, .ref m_months, .ref m_ways, .ref m_waysOn, .ref m_many, .ref m_width, .ref m_numbers, .ref m_moving])), (m_ways, .inl (cJ, 201, .inr (.inl f2))), (m_waysOn, .inl (cK, 201, .inr (.inl v.2)))] ∧ va_S A s.heap H locs ∧ lv_has ls 7 [(5, .int (nI v.1)), (4, .int (nI k)), (0, .ref h0), (1, .int (nI nn)), (2, .int (nI lo)), (3, .int (nI hh))]) (fun v H locs ls hI ih_46 => ?_) (0, g2) ⟨(show 0 ≤ 201 from Nat.zero_le _), (show ∀ j, j < 0 → g2 j = TT lo hh (k + 1) j from (fun j hj => absurd hj (Nat.not_lt_zero j))), hP, hD, hS, hl⟩
      obtain ⟨q, g3⟩ := v
      obtain ⟨hq, h3, hP, hD, hS, hl⟩ := hI
      have hq : q ≤ 201 := hq
      have h3 : ∀ j, j < q → g3 j = TT lo hh (k + 1) j := h3
      have hP : va_P (dC, dI) vwCl [(h0, .inr (8, [.int 0, .ref m_world, .ref m_images, .ref m_hasImage, .ref m_luck, .ref m_tape, .int 0, .ref m_five, .int 0, .int 0, .int 0, .int 0, .int 0, .int 0, .int (-1), .ref m_fresh, .ref m_waits, .int 0, .int 0, .int 0, .ref m_figures, .ref m_pile, .long 0, .ref m_times, .ref m_far, .ref m_queue, .ref m_months, .ref m_ways, .ref m_waysOn, .ref m_many, .ref m_width, .ref m_numbers, .ref m_moving])), (m_ways, .inl (cJ, 201, .inr (.inl f2))), (m_waysOn, .inl (cK, 201, .inr (.inl g3)))] H := hP
      have hD : va_D A [(h0, .inr (8, [.int 0, .ref m_world, .ref m_images, .ref m_hasImage, .ref m_luck, .ref m_tape, .int 0, .ref m_five, .int 0, .int 0, .int 0, .int 0, .int 0, .int 0, .int (-1), .ref m_fresh, .ref m_waits, .int 0, .int 0, .int 0, .ref m_figures, .ref m_pile, .long 0, .ref m_times, .ref m_far, .ref m_queue, .ref m_months, .ref m_ways, .ref m_waysOn, .ref m_many, .ref m_width, .ref m_numbers, .ref m_moving])), (m_ways, .inl (cJ, 201, .inr (.inl f2))), (m_waysOn, .inl (cK, 201, .inr (.inl g3)))] := hD
      have hl : lv_has ls 7 [(5, .int (nI q)), (4, .int (nI k)), (0, .ref h0), (1, .int (nI nn)), (2, .int (nI lo)), (3, .int (nI hh))] := hl
      refine lv_iload hx hb dX10_fillWays_46 (lv_at hl 0 rfl) ?_
      refine lv_sipush (v := 201) hx hb dX10_fillWays_48 (by decide) ?_
      refine lv_icmp_ge (tgt := 110) hx hb dX10_fillWays_51 (by decide) (fun c_3 => ?_) (fun c_3 => ?_)
      ·
        have nc_3 : 201 ≤ q := (nI_leI (a := 201) (b := q) (by omega) (by omega)).mp c_3
        refine lv_iconst (v := 0) hx hb dX10_fillWays_110 (by decide) ?_
        refine lv_istore (lv' := [(5, .int 0), (4, .int (nI k)), (0, .ref h0), (1, .int (nI nn)), (2, .int (nI lo)), (3, .int (nI hh))]) hx hb dX10_fillWays_111 hl (by decide) rfl (fun ls hl => ?_)
        refine loopW (σ := Nat × (Nat → Int64)) (fun v => 202 - v.1) (fun v H locs ls => (v.1 ≤ 201) ∧ (∀ j, j < v.1 → v.2 j = TT lo hh (k + 1) j) ∧ va_P (dC, dI) vwCl [(h0, .inr (8, [.int 0, .ref m_world, .ref m_images, .ref m_hasImage, .ref m_luck, .ref m_tape, .int 0, .ref m_five, .int 0, .int 0, .int 0, .int 0, .int 0, .int 0, .int (-1), .ref m_fresh, .ref m_waits, .int 0, .int 0, .int 0, .ref m_figures, .ref m_pile, .long 0, .ref m_times, .ref m_far, .ref m_queue, .ref m_months, .ref m_ways, .ref m_waysOn, .ref m_many, .ref m_width, .ref m_numbers, .ref m_moving])), (m_ways, .inl (cJ, 201, .inr (.inl v.2))), (m_waysOn, .inl (cK, 201, .inr (.inl g3)))] H ∧ va_D A [(h0, .inr (8, [.int 0, .ref m_world, .ref m_images, .ref m_hasImage, .ref m_luck, .ref m_tape, .int 0, .ref m_five, .int 0, .int 0, .int 0, .int 0, .int 0, .int 0, .int (-1), .ref m_fresh, .ref m_waits, .int 0, .int 0, .int 0, .ref m_figures, .ref m_pile, .long 0, .ref m_times, .ref m_far, .ref m_queue, .ref m_months, .ref m_ways, .ref m_waysOn, .ref m_many, .ref m_width, .ref m_numbers, .ref m_moving])), (m_ways, .inl (cJ, 201, .inr (.inl v.2))), (m_waysOn, .inl (cK, 201, .inr (.inl g3)))] ∧ va_S A s.heap H locs ∧ lv_has ls 7 [(5, .int (nI v.1)), (4, .int (nI k)), (0, .ref h0), (1, .int (nI nn)), (2, .int (nI lo)), (3, .int (nI hh))]) (fun v H locs ls hI ih_113 => ?_) (0, f2) ⟨(show 0 ≤ 201 from Nat.zero_le _), (show ∀ j, j < 0 → f2 j = TT lo hh (k + 1) j from (fun j hj => absurd hj (Nat.not_lt_zero j))), hP, hD, hS, hl⟩
        obtain ⟨t9, f5⟩ := v
        obtain ⟨ht9, h5, hP, hD, hS, hl⟩ := hI
        have ht9 : t9 ≤ 201 := ht9
        have h5 : ∀ j, j < t9 → f5 j = TT lo hh (k + 1) j := h5
        have hP : va_P (dC, dI) vwCl [(h0, .inr (8, [.int 0, .ref m_world, .ref m_images, .ref m_hasImage, .ref m_luck, .ref m_tape, .int 0, .ref m_five, .int 0, .int 0, .int 0, .int 0, .int 0, .int 0, .int (-1), .ref m_fresh, .ref m_waits, .int 0, .int 0, .int 0, .ref m_figures, .ref m_pile, .long 0, .ref m_times, .ref m_far, .ref m_queue, .ref m_months, .ref m_ways, .ref m_waysOn, .ref m_many, .ref m_width, .ref m_numbers, .ref m_moving])), (m_ways, .inl (cJ, 201, .inr (.inl f5))), (m_waysOn, .inl (cK, 201, .inr (.inl g3)))] H := hP
        have hD : va_D A [(h0, .inr (8, [.int 0, .ref m_world, .ref m_images, .ref m_hasImage, .ref m_luck, .ref m_tape, .int 0, .ref m_five, .int 0, .int 0, .int 0, .int 0, .int 0, .int 0, .int (-1), .ref m_fresh, .ref m_waits, .int 0, .int 0, .int 0, .ref m_figures, .ref m_pile, .long 0, .ref m_times, .ref m_far, .ref m_queue, .ref m_months, .ref m_ways, .ref m_waysOn, .ref m_many, .ref m_width, .ref m_numbers, .ref m_moving])), (m_ways, .inl (cJ, 201, .inr (.inl f5))), (m_waysOn, .inl (cK, 201, .inr (.inl g3)))] := hD
        have hl : lv_has ls 7 [(5, .int (nI t9)), (4, .int (nI k)), (0, .ref h0), (1, .int (nI nn)), (2, .int (nI lo)), (3, .int (nI hh))] := hl
        refine lv_iload hx hb dX10_fillWays_113 (lv_at hl 0 rfl) ?_
        refine lv_sipush (v := 201) hx hb dX10_fillWays_115 (by decide) ?_
        refine lv_icmp_ge (tgt := 141) hx hb dX10_fillWays_118 (by decide) (fun c_4 => ?_) (fun c_4 => ?_)
        ·
          have nc_4 : 201 ≤ t9 := (nI_leI (a := 201) (b := t9) (by omega) (by omega)).mp c_4
          obtain ⟨z_5, ez_5⟩ : ∃ y : Int32, y = nI k + 1 := ⟨_, rfl⟩
          refine lv_iinc (v := z_5) (lv' := [(4, .int z_5), (5, .int (nI t9)), (0, .ref h0), (1, .int (nI nn)), (2, .int (nI lo)), (3, .int (nI hh))]) hx hb dX10_fillWays_141 hl (k := 1) rfl (by rw [ez_5]; rfl) (by decide) rfl (fun ls hl => ?_)
          obtain rfl : z_5 = nI (k + 1) := ez_5.trans (nI_add k 1)
          refine lv_goto (tgt := 37) hx hb dX10_fillWays_144 (by decide) ?_
          exact ih_37 (k + 1, f5, g3) _ _ _ ⟨(show (k + 1) ≤ nn from (by omega)), (show ∀ j, j < 201 → f5 j = TT lo hh (k + 1) j from (fun j hj => h5 j (by omega))), hP, hD, hS, lv_sub hl [0, 2, 3, 4, 5] rfl⟩ (show 13 - (k + 1) < 13 - k by omega)
        ·
          have nc_4 : ¬ 201 ≤ t9 := fun q9 => c_4 ((nI_leI (a := 201) (b := t9) (by omega) (by omega)).mpr q9)
          refine lv_aload_n hx hb dX10_fillWays_121 rfl (lv_at hl 2 rfl) ?_
          refine va_get (D := (dC, dI)) (ci := 8) (v := .ref m_ways) (C := RX10) (T := TX10) (N := 33) hx hb hts iX10_fillWays_X10 hown hK hP 0 rfl rfl 27 (by decide) (hts (.fieldLink RX10 58 "LuckyTicketModel" "ways" "[J") (List.mem_of_getElem? (i := 1) rfl)) (fun _ h9 => h9) rfl dX10_fillWays_122 ?_
          refine lv_iload hx hb dX10_fillWays_125 (lv_at hl 0 rfl) ?_
          refine lv_aload_n hx hb dX10_fillWays_127 rfl (lv_at hl 2 rfl) ?_
          refine va_get (D := (dC, dI)) (ci := 8) (v := .ref m_waysOn) (C := RX10) (T := TX10) (N := 33) hx hb hts iX10_fillWays_X10 hown hK hP 0 rfl rfl 28 (by decide) (hts (.fieldLink RX10 62 "LuckyTicketModel" "waysOn" "[J") (List.mem_of_getElem? (i := 2) rfl)) (fun _ h9 => h9) rfl dX10_fillWays_128 ?_
          refine lv_iload hx hb dX10_fillWays_131 (lv_at hl 0 rfl) ?_
          refine va_lald hx hb hK hP 2 1 rfl rfl (vp_in_nI (n := t9) (by omega) (by decide)) dX10_fillWays_133 ?_
          refine lv_topl (fun z_6 ez_6 => ?_)
          rw [nI_clamp (n := t9) (by omega)] at ez_6
          refine va_last hx hb hK hP hD hS 1 0 rfl rfl (vp_in_nI (n := t9) (by omega) (by decide)) dX10_fillWays_134 (fun H locs hP hD hS => ?_)
          have hP : va_P (dC, dI) vwCl [(h0, .inr (8, [.int 0, .ref m_world, .ref m_images, .ref m_hasImage, .ref m_luck, .ref m_tape, .int 0, .ref m_five, .int 0, .int 0, .int 0, .int 0, .int 0, .int 0, .int (-1), .ref m_fresh, .ref m_waits, .int 0, .int 0, .int 0, .ref m_figures, .ref m_pile, .long 0, .ref m_times, .ref m_far, .ref m_queue, .ref m_months, .ref m_ways, .ref m_waysOn, .ref m_many, .ref m_width, .ref m_numbers, .ref m_moving])), (m_ways, .inl (cJ, 201, .inr (.inl (vp_updL f5 ((nI t9) : Int32).toNatClampNeg z_6)))), (m_waysOn, .inl (cK, 201, .inr (.inl g3)))] H := hP
          have hD : va_D A [(h0, .inr (8, [.int 0, .ref m_world, .ref m_images, .ref m_hasImage, .ref m_luck, .ref m_tape, .int 0, .ref m_five, .int 0, .int 0, .int 0, .int 0, .int 0, .int 0, .int (-1), .ref m_fresh, .ref m_waits, .int 0, .int 0, .int 0, .ref m_figures, .ref m_pile, .long 0, .ref m_times, .ref m_far, .ref m_queue, .ref m_months, .ref m_ways, .ref m_waysOn, .ref m_many, .ref m_width, .ref m_numbers, .ref m_moving])), (m_ways, .inl (cJ, 201, .inr (.inl (vp_updL f5 ((nI t9) : Int32).toNatClampNeg z_6)))), (m_waysOn, .inl (cK, 201, .inr (.inl g3)))] := hD
          rw [nI_clamp (n := t9) (by omega)] at hP hD
          have hP : va_P (dC, dI) vwCl [(h0, .inr (8, [.int 0, .ref m_world, .ref m_images, .ref m_hasImage, .ref m_luck, .ref m_tape, .int 0, .ref m_five, .int 0, .int 0, .int 0, .int 0, .int 0, .int 0, .int (-1), .ref m_fresh, .ref m_waits, .int 0, .int 0, .int 0, .ref m_figures, .ref m_pile, .long 0, .ref m_times, .ref m_far, .ref m_queue, .ref m_months, .ref m_ways, .ref m_waysOn, .ref m_many, .ref m_width, .ref m_numbers, .ref m_moving])), (m_ways, .inl (cJ, 201, .inr (.inl (vp_updL f5 t9 z_6)))), (m_waysOn, .inl (cK, 201, .inr (.inl g3)))] H := hP
          have hD : va_D A [(h0, .inr (8, [.int 0, .ref m_world, .ref m_images, .ref m_hasImage, .ref m_luck, .ref m_tape, .int 0, .ref m_five, .int 0, .int 0, .int 0, .int 0, .int 0, .int 0, .int (-1), .ref m_fresh, .ref m_waits, .int 0, .int 0, .int 0, .ref m_figures, .ref m_pile, .long 0, .ref m_times, .ref m_far, .ref m_queue, .ref m_months, .ref m_ways, .ref m_waysOn, .ref m_many, .ref m_width, .ref m_numbers, .ref m_moving])), (m_ways, .inl (cJ, 201, .inr (.inl (vp_updL f5 t9 z_6)))), (m_waysOn, .inl (cK, 201, .inr (.inl g3)))] := hD
          obtain ⟨z_7, ez_7⟩ : ∃ y : Int32, y = nI t9 + 1 := ⟨_, rfl⟩
          refine lv_iinc (v := z_7) (lv' := [(5, .int z_7), (4, .int (nI k)), (0, .ref h0), (1, .int (nI nn)), (2, .int (nI lo)), (3, .int (nI hh))]) hx hb dX10_fillWays_135 hl (k := 0) rfl (by rw [ez_7]; rfl) (by decide) rfl (fun ls hl => ?_)
          obtain rfl : z_7 = nI (t9 + 1) := ez_7.trans (nI_add t9 1)
          refine lv_goto (tgt := 113) hx hb dX10_fillWays_138 (by decide) ?_
          exact ih_113 (t9 + 1, vp_updL f5 t9 z_6) _ _ _ ⟨(show (t9 + 1) ≤ 201 from (by omega)), (show ∀ j, j < (t9 + 1) → (vp_updL f5 t9 z_6) j = TT lo hh (k + 1) j from updLn (by rw [ez_6]; exact h3 t9 (by omega)) h5), hP, hD, hS, lv_sub hl [0, 1, 2, 3, 4, 5] rfl⟩ (show 202 - (t9 + 1) < 202 - t9 by omega)
      ·
        have nc_3 : ¬ 201 ≤ q := fun q9 => c_3 ((nI_leI (a := 201) (b := q) (by omega) (by omega)).mpr q9)
        refine lv_aload_n hx hb dX10_fillWays_54 rfl (lv_at hl 2 rfl) ?_
        refine va_get (D := (dC, dI)) (ci := 8) (v := .ref m_waysOn) (C := RX10) (T := TX10) (N := 33) hx hb hts iX10_fillWays_X10 hown hK hP 0 rfl rfl 28 (by decide) (hts (.fieldLink RX10 62 "LuckyTicketModel" "waysOn" "[J") (List.mem_of_getElem? (i := 2) rfl)) (fun _ h9 => h9) rfl dX10_fillWays_55 ?_
        refine lv_iload hx hb dX10_fillWays_58 (lv_at hl 0 rfl) ?_
        refine lv_lconst (v := 0) hx hb dX10_fillWays_60 (by decide) ?_
        refine va_last hx hb hK hP hD hS 2 1 rfl rfl (vp_in_nI (n := q) (by omega) (by decide)) dX10_fillWays_61 (fun H locs hP hD hS => ?_)
        have hP : va_P (dC, dI) vwCl [(h0, .inr (8, [.int 0, .ref m_world, .ref m_images, .ref m_hasImage, .ref m_luck, .ref m_tape, .int 0, .ref m_five, .int 0, .int 0, .int 0, .int 0, .int 0, .int 0, .int (-1), .ref m_fresh, .ref m_waits, .int 0, .int 0, .int 0, .ref m_figures, .ref m_pile, .long 0, .ref m_times, .ref m_far, .ref m_queue, .ref m_months, .ref m_ways, .ref m_waysOn, .ref m_many, .ref m_width, .ref m_numbers, .ref m_moving])), (m_ways, .inl (cJ, 201, .inr (.inl f2))), (m_waysOn, .inl (cK, 201, .inr (.inl (vp_updL g3 ((nI q) : Int32).toNatClampNeg 0))))] H := hP
        have hD : va_D A [(h0, .inr (8, [.int 0, .ref m_world, .ref m_images, .ref m_hasImage, .ref m_luck, .ref m_tape, .int 0, .ref m_five, .int 0, .int 0, .int 0, .int 0, .int 0, .int 0, .int (-1), .ref m_fresh, .ref m_waits, .int 0, .int 0, .int 0, .ref m_figures, .ref m_pile, .long 0, .ref m_times, .ref m_far, .ref m_queue, .ref m_months, .ref m_ways, .ref m_waysOn, .ref m_many, .ref m_width, .ref m_numbers, .ref m_moving])), (m_ways, .inl (cJ, 201, .inr (.inl f2))), (m_waysOn, .inl (cK, 201, .inr (.inl (vp_updL g3 ((nI q) : Int32).toNatClampNeg 0))))] := hD
        rw [nI_clamp (n := q) (by omega)] at hP hD
        have hP : va_P (dC, dI) vwCl [(h0, .inr (8, [.int 0, .ref m_world, .ref m_images, .ref m_hasImage, .ref m_luck, .ref m_tape, .int 0, .ref m_five, .int 0, .int 0, .int 0, .int 0, .int 0, .int 0, .int (-1), .ref m_fresh, .ref m_waits, .int 0, .int 0, .int 0, .ref m_figures, .ref m_pile, .long 0, .ref m_times, .ref m_far, .ref m_queue, .ref m_months, .ref m_ways, .ref m_waysOn, .ref m_many, .ref m_width, .ref m_numbers, .ref m_moving])), (m_ways, .inl (cJ, 201, .inr (.inl f2))), (m_waysOn, .inl (cK, 201, .inr (.inl (vp_updL g3 q 0))))] H := hP
        have hD : va_D A [(h0, .inr (8, [.int 0, .ref m_world, .ref m_images, .ref m_hasImage, .ref m_luck, .ref m_tape, .int 0, .ref m_five, .int 0, .int 0, .int 0, .int 0, .int 0, .int 0, .int (-1), .ref m_fresh, .ref m_waits, .int 0, .int 0, .int 0, .ref m_figures, .ref m_pile, .long 0, .ref m_times, .ref m_far, .ref m_queue, .ref m_months, .ref m_ways, .ref m_waysOn, .ref m_many, .ref m_width, .ref m_numbers, .ref m_moving])), (m_ways, .inl (cJ, 201, .inr (.inl f2))), (m_waysOn, .inl (cK, 201, .inr (.inl (vp_updL g3 q 0))))] := hD
        refine lv_iload_n hx hb dX10_fillWays_62 rfl (lv_at hl 4 rfl) ?_
        refine lv_istore (lv' := [(6, .int (nI lo)), (5, .int (nI q)), (4, .int (nI k)), (0, .ref h0), (1, .int (nI nn)), (2, .int (nI lo)), (3, .int (nI hh))]) hx hb dX10_fillWays_63 hl (by decide) rfl (fun ls hl => ?_)
        refine loopW (σ := Nat × (Nat → Int64)) (fun v => 40 - v.1) (fun v H locs ls => (lo ≤ v.1 ∧ (v.1 = lo ∨ (v.1 ≤ hh + 1 ∧ v.1 ≤ q + 1))) ∧ (v.2 q = sgl f2 q lo (v.1 - lo)) ∧ (∀ j, j < q → v.2 j = TT lo hh (k + 1) j) ∧ va_P (dC, dI) vwCl [(h0, .inr (8, [.int 0, .ref m_world, .ref m_images, .ref m_hasImage, .ref m_luck, .ref m_tape, .int 0, .ref m_five, .int 0, .int 0, .int 0, .int 0, .int 0, .int 0, .int (-1), .ref m_fresh, .ref m_waits, .int 0, .int 0, .int 0, .ref m_figures, .ref m_pile, .long 0, .ref m_times, .ref m_far, .ref m_queue, .ref m_months, .ref m_ways, .ref m_waysOn, .ref m_many, .ref m_width, .ref m_numbers, .ref m_moving])), (m_ways, .inl (cJ, 201, .inr (.inl f2))), (m_waysOn, .inl (cK, 201, .inr (.inl v.2)))] H ∧ va_D A [(h0, .inr (8, [.int 0, .ref m_world, .ref m_images, .ref m_hasImage, .ref m_luck, .ref m_tape, .int 0, .ref m_five, .int 0, .int 0, .int 0, .int 0, .int 0, .int 0, .int (-1), .ref m_fresh, .ref m_waits, .int 0, .int 0, .int 0, .ref m_figures, .ref m_pile, .long 0, .ref m_times, .ref m_far, .ref m_queue, .ref m_months, .ref m_ways, .ref m_waysOn, .ref m_many, .ref m_width, .ref m_numbers, .ref m_moving])), (m_ways, .inl (cJ, 201, .inr (.inl f2))), (m_waysOn, .inl (cK, 201, .inr (.inl v.2)))] ∧ va_S A s.heap H locs ∧ lv_has ls 7 [(6, .int (nI v.1)), (5, .int (nI q)), (4, .int (nI k)), (0, .ref h0), (1, .int (nI nn)), (2, .int (nI lo)), (3, .int (nI hh))]) (fun v H locs ls hI ih_65 => ?_) (lo, vp_updL g3 q 0) ⟨(show lo ≤ lo ∧ (lo = lo ∨ (lo ≤ hh + 1 ∧ lo ≤ q + 1)) from (by omega)), (show (vp_updL g3 q 0) q = sgl f2 q lo (lo - lo) from (by rw [pk_uLs, Nat.sub_self]; rfl)), (show ∀ j, j < q → (vp_updL g3 q 0) j = TT lo hh (k + 1) j from updLk h3), hP, hD, hS, hl⟩
        obtain ⟨v, g4⟩ := v
        obtain ⟨hv, h4, h4k, hP, hD, hS, hl⟩ := hI
        have hv : lo ≤ v ∧ (v = lo ∨ (v ≤ hh + 1 ∧ v ≤ q + 1)) := hv
        have h4 : g4 q = sgl f2 q lo (v - lo) := h4
        have h4k : ∀ j, j < q → g4 j = TT lo hh (k + 1) j := h4k
        have hP : va_P (dC, dI) vwCl [(h0, .inr (8, [.int 0, .ref m_world, .ref m_images, .ref m_hasImage, .ref m_luck, .ref m_tape, .int 0, .ref m_five, .int 0, .int 0, .int 0, .int 0, .int 0, .int 0, .int (-1), .ref m_fresh, .ref m_waits, .int 0, .int 0, .int 0, .ref m_figures, .ref m_pile, .long 0, .ref m_times, .ref m_far, .ref m_queue, .ref m_months, .ref m_ways, .ref m_waysOn, .ref m_many, .ref m_width, .ref m_numbers, .ref m_moving])), (m_ways, .inl (cJ, 201, .inr (.inl f2))), (m_waysOn, .inl (cK, 201, .inr (.inl g4)))] H := hP
        have hD : va_D A [(h0, .inr (8, [.int 0, .ref m_world, .ref m_images, .ref m_hasImage, .ref m_luck, .ref m_tape, .int 0, .ref m_five, .int 0, .int 0, .int 0, .int 0, .int 0, .int 0, .int (-1), .ref m_fresh, .ref m_waits, .int 0, .int 0, .int 0, .ref m_figures, .ref m_pile, .long 0, .ref m_times, .ref m_far, .ref m_queue, .ref m_months, .ref m_ways, .ref m_waysOn, .ref m_many, .ref m_width, .ref m_numbers, .ref m_moving])), (m_ways, .inl (cJ, 201, .inr (.inl f2))), (m_waysOn, .inl (cK, 201, .inr (.inl g4)))] := hD
        have hl : lv_has ls 7 [(6, .int (nI v)), (5, .int (nI q)), (4, .int (nI k)), (0, .ref h0), (1, .int (nI nn)), (2, .int (nI lo)), (3, .int (nI hh))] := hl
        refine lv_iload hx hb dX10_fillWays_65 (lv_at hl 0 rfl) ?_
        refine lv_iload_n hx hb dX10_fillWays_67 rfl (lv_at hl 6 rfl) ?_
        refine lv_icmp_gt (tgt := 104) hx hb dX10_fillWays_68 (by decide) (fun c_8 => ?_) (fun c_8 => ?_)
        ·
          have nc_8 : hh < v := (nI_ltI (a := hh) (b := v) (by omega) (by omega)).mp c_8
          obtain ⟨z_9, ez_9⟩ : ∃ y : Int32, y = nI q + 1 := ⟨_, rfl⟩
          refine lv_iinc (v := z_9) (lv' := [(5, .int z_9), (6, .int (nI v)), (4, .int (nI k)), (0, .ref h0), (1, .int (nI nn)), (2, .int (nI lo)), (3, .int (nI hh))]) hx hb dX10_fillWays_104 hl (k := 1) rfl (by rw [ez_9]; rfl) (by decide) rfl (fun ls hl => ?_)
          obtain rfl : z_9 = nI (q + 1) := ez_9.trans (nI_add q 1)
          refine lv_goto (tgt := 46) hx hb dX10_fillWays_107 (by decide) ?_
          exact ih_46 (q + 1, g4) _ _ _ ⟨(show (q + 1) ≤ 201 from (by omega)), (show ∀ j, j < (q + 1) → g4 j = TT lo hh (k + 1) j from f3_s (by rw [h4, show v - lo = cv lo hh q by unfold cv; omega]; exact sgl_cong (fun j hj => hT2 j (by omega)) _) h4k), hP, hD, hS, lv_sub hl [0, 2, 3, 4, 5, 6] rfl⟩ (show 202 - (q + 1) < 202 - q by omega)
        ·
          have nc_8 : ¬ hh < v := fun q9 => c_8 ((nI_ltI (a := hh) (b := v) (by omega) (by omega)).mpr q9)
          refine lv_iload hx hb dX10_fillWays_71 (lv_at hl 0 rfl) ?_
          refine lv_iload hx hb dX10_fillWays_73 (lv_at hl 1 rfl) ?_
          refine lv_icmp_gt (tgt := 104) hx hb dX10_fillWays_75 (by decide) (fun c_10 => ?_) (fun c_10 => ?_)
          ·
            have nc_10 : q < v := (nI_ltI (a := q) (b := v) (by omega) (by omega)).mp c_10
            obtain ⟨z_11, ez_11⟩ : ∃ y : Int32, y = nI q + 1 := ⟨_, rfl⟩
            refine lv_iinc (v := z_11) (lv' := [(5, .int z_11), (6, .int (nI v)), (4, .int (nI k)), (0, .ref h0), (1, .int (nI nn)), (2, .int (nI lo)), (3, .int (nI hh))]) hx hb dX10_fillWays_104 hl (k := 1) rfl (by rw [ez_11]; rfl) (by decide) rfl (fun ls hl => ?_)
            obtain rfl : z_11 = nI (q + 1) := ez_11.trans (nI_add q 1)
            refine lv_goto (tgt := 46) hx hb dX10_fillWays_107 (by decide) ?_
            exact ih_46 (q + 1, g4) _ _ _ ⟨(show (q + 1) ≤ 201 from (by omega)), (show ∀ j, j < (q + 1) → g4 j = TT lo hh (k + 1) j from f3_s (by rw [h4, show v - lo = cv lo hh q by unfold cv; omega]; exact sgl_cong (fun j hj => hT2 j (by omega)) _) h4k), hP, hD, hS, lv_sub hl [0, 2, 3, 4, 5, 6] rfl⟩ (show 202 - (q + 1) < 202 - q by omega)
          ·
            have nc_10 : ¬ q < v := fun q9 => c_10 ((nI_ltI (a := q) (b := v) (by omega) (by omega)).mpr q9)
            refine lv_aload_n hx hb dX10_fillWays_78 rfl (lv_at hl 3 rfl) ?_
            refine va_get (D := (dC, dI)) (ci := 8) (v := .ref m_waysOn) (C := RX10) (T := TX10) (N := 33) hx hb hts iX10_fillWays_X10 hown hK hP 0 rfl rfl 28 (by decide) (hts (.fieldLink RX10 62 "LuckyTicketModel" "waysOn" "[J") (List.mem_of_getElem? (i := 2) rfl)) (fun _ h9 => h9) rfl dX10_fillWays_79 ?_
            refine lv_iload hx hb dX10_fillWays_82 (lv_at hl 1 rfl) ?_
            refine lv_dup2_11 hx hb dX10_fillWays_84 rfl rfl ?_
            refine va_lald hx hb hK hP 2 1 rfl rfl (vp_in_nI (n := q) (by omega) (by decide)) dX10_fillWays_85 ?_
            refine lv_topl (fun z_12 ez_12 => ?_)
            rw [nI_clamp (n := q) (by omega)] at ez_12
            refine lv_aload_n hx hb dX10_fillWays_86 rfl (lv_at hl 3 rfl) ?_
            refine va_get (D := (dC, dI)) (ci := 8) (v := .ref m_ways) (C := RX10) (T := TX10) (N := 33) hx hb hts iX10_fillWays_X10 hown hK hP 0 rfl rfl 27 (by decide) (hts (.fieldLink RX10 58 "LuckyTicketModel" "ways" "[J") (List.mem_of_getElem? (i := 1) rfl)) (fun _ h9 => h9) rfl dX10_fillWays_87 ?_
            refine lv_iload hx hb dX10_fillWays_90 (lv_at hl 1 rfl) ?_
            refine lv_iload hx hb dX10_fillWays_92 (lv_at hl 0 rfl) ?_
            refine lv_isub hx hb dX10_fillWays_94 ?_
            refine lv_topi (fun z_13 ez_13 => ?_)
            obtain rfl : z_13 = nI (q - v) := ez_13.trans (pk_sub (a := q) (b := v) (by omega))
            refine va_lald hx hb hK hP 1 0 rfl rfl (vp_in_nI (n := q - v) (by omega) (by decide)) dX10_fillWays_95 ?_
            refine lv_topl (fun z_14 ez_14 => ?_)
            rw [nI_clamp (n := q - v) (by omega)] at ez_14
            refine lv_ladd hx hb dX10_fillWays_96 ?_
            refine lv_topl (fun z_15 ez_15 => ?_)
            refine va_last hx hb hK hP hD hS 2 1 rfl rfl (vp_in_nI (n := q) (by omega) (by decide)) dX10_fillWays_97 (fun H locs hP hD hS => ?_)
            have hP : va_P (dC, dI) vwCl [(h0, .inr (8, [.int 0, .ref m_world, .ref m_images, .ref m_hasImage, .ref m_luck, .ref m_tape, .int 0, .ref m_five, .int 0, .int 0, .int 0, .int 0, .int 0, .int 0, .int (-1), .ref m_fresh, .ref m_waits, .int 0, .int 0, .int 0, .ref m_figures, .ref m_pile, .long 0, .ref m_times, .ref m_far, .ref m_queue, .ref m_months, .ref m_ways, .ref m_waysOn, .ref m_many, .ref m_width, .ref m_numbers, .ref m_moving])), (m_ways, .inl (cJ, 201, .inr (.inl f2))), (m_waysOn, .inl (cK, 201, .inr (.inl (vp_updL g4 ((nI q) : Int32).toNatClampNeg z_15))))] H := hP
            have hD : va_D A [(h0, .inr (8, [.int 0, .ref m_world, .ref m_images, .ref m_hasImage, .ref m_luck, .ref m_tape, .int 0, .ref m_five, .int 0, .int 0, .int 0, .int 0, .int 0, .int 0, .int (-1), .ref m_fresh, .ref m_waits, .int 0, .int 0, .int 0, .ref m_figures, .ref m_pile, .long 0, .ref m_times, .ref m_far, .ref m_queue, .ref m_months, .ref m_ways, .ref m_waysOn, .ref m_many, .ref m_width, .ref m_numbers, .ref m_moving])), (m_ways, .inl (cJ, 201, .inr (.inl f2))), (m_waysOn, .inl (cK, 201, .inr (.inl (vp_updL g4 ((nI q) : Int32).toNatClampNeg z_15))))] := hD
            rw [nI_clamp (n := q) (by omega)] at hP hD
            have hP : va_P (dC, dI) vwCl [(h0, .inr (8, [.int 0, .ref m_world, .ref m_images, .ref m_hasImage, .ref m_luck, .ref m_tape, .int 0, .ref m_five, .int 0, .int 0, .int 0, .int 0, .int 0, .int 0, .int (-1), .ref m_fresh, .ref m_waits, .int 0, .int 0, .int 0, .ref m_figures, .ref m_pile, .long 0, .ref m_times, .ref m_far, .ref m_queue, .ref m_months, .ref m_ways, .ref m_waysOn, .ref m_many, .ref m_width, .ref m_numbers, .ref m_moving])), (m_ways, .inl (cJ, 201, .inr (.inl f2))), (m_waysOn, .inl (cK, 201, .inr (.inl (vp_updL g4 q z_15))))] H := hP
            have hD : va_D A [(h0, .inr (8, [.int 0, .ref m_world, .ref m_images, .ref m_hasImage, .ref m_luck, .ref m_tape, .int 0, .ref m_five, .int 0, .int 0, .int 0, .int 0, .int 0, .int 0, .int (-1), .ref m_fresh, .ref m_waits, .int 0, .int 0, .int 0, .ref m_figures, .ref m_pile, .long 0, .ref m_times, .ref m_far, .ref m_queue, .ref m_months, .ref m_ways, .ref m_waysOn, .ref m_many, .ref m_width, .ref m_numbers, .ref m_moving])), (m_ways, .inl (cJ, 201, .inr (.inl f2))), (m_waysOn, .inl (cK, 201, .inr (.inl (vp_updL g4 q z_15))))] := hD
            obtain ⟨z_16, ez_16⟩ : ∃ y : Int32, y = nI v + 1 := ⟨_, rfl⟩
            refine lv_iinc (v := z_16) (lv' := [(6, .int z_16), (5, .int (nI q)), (4, .int (nI k)), (0, .ref h0), (1, .int (nI nn)), (2, .int (nI lo)), (3, .int (nI hh))]) hx hb dX10_fillWays_98 hl (k := 0) rfl (by rw [ez_16]; rfl) (by decide) rfl (fun ls hl => ?_)
            obtain rfl : z_16 = nI (v + 1) := ez_16.trans (nI_add v 1)
            refine lv_goto (tgt := 65) hx hb dX10_fillWays_101 (by decide) ?_
            exact ih_65 (v + 1, vp_updL g4 q z_15) _ _ _ ⟨(show lo ≤ (v + 1) ∧ ((v + 1) = lo ∨ ((v + 1) ≤ hh + 1 ∧ (v + 1) ≤ q + 1)) from (by omega)), (show (vp_updL g4 q z_15) q = sgl f2 q lo ((v + 1) - lo) from (by rw [pk_uLs, ez_15, ez_12, ez_14, h4, show v + 1 - lo = v - lo + 1 by omega]; show _ = sgl f2 q lo (v - lo) + f2 (q - (lo + (v - lo))); rw [show lo + (v - lo) = v by omega])), (show ∀ j, j < q → (vp_updL g4 q z_15) j = TT lo hh (k + 1) j from updLk h4k), hP, hD, hS, lv_sub hl [0, 1, 2, 3, 4, 5, 6] rfl⟩ (show 40 - (v + 1) < 40 - v by omega)
  ·
    have nc_1 : ¬ 201 ≤ i := fun q9 => c_1 ((nI_leI (a := 201) (b := i) (by omega) (by omega)).mpr q9)
    refine lv_aload_n hx hb dX10_fillWays_11 rfl (lv_at hl 1 rfl) ?_
    refine va_get (D := (dC, dI)) (ci := 8) (v := .ref m_ways) (C := RX10) (T := TX10) (N := 33) hx hb hts iX10_fillWays_X10 hown hK hP 0 rfl rfl 27 (by decide) (hts (.fieldLink RX10 58 "LuckyTicketModel" "ways" "[J") (List.mem_of_getElem? (i := 1) rfl)) (fun _ h9 => h9) rfl dX10_fillWays_12 ?_
    refine lv_iload hx hb dX10_fillWays_15 (lv_at hl 0 rfl) ?_
    refine lv_iload hx hb dX10_fillWays_17 (lv_at hl 0 rfl) ?_
    refine lv_if_ne (tgt := 26) hx hb dX10_fillWays_19 (by decide) (fun c_17 => ?_) (fun c_17 => ?_)
    ·
      have nc_17 : ¬ (i = 0) := fun q9 => c_17 ((nI_eq (a := i) (b := 0) (by omega) (by omega)).mpr q9)
      refine lv_lconst (v := 0) hx hb dX10_fillWays_26 (by decide) ?_
      refine va_last hx hb hK hP hD hS 1 0 rfl rfl (vp_in_nI (n := i) (by omega) (by decide)) dX10_fillWays_27 (fun H locs hP hD hS => ?_)
      have hP : va_P (dC, dI) vwCl [(h0, .inr (8, [.int 0, .ref m_world, .ref m_images, .ref m_hasImage, .ref m_luck, .ref m_tape, .int 0, .ref m_five, .int 0, .int 0, .int 0, .int 0, .int 0, .int 0, .int (-1), .ref m_fresh, .ref m_waits, .int 0, .int 0, .int 0, .ref m_figures, .ref m_pile, .long 0, .ref m_times, .ref m_far, .ref m_queue, .ref m_months, .ref m_ways, .ref m_waysOn, .ref m_many, .ref m_width, .ref m_numbers, .ref m_moving])), (m_ways, .inl (cJ, 201, .inr (.inl (vp_updL f1 ((nI i) : Int32).toNatClampNeg 0)))), (m_waysOn, .inl (cK, 201, .inr (.inl g)))] H := hP
      have hD : va_D A [(h0, .inr (8, [.int 0, .ref m_world, .ref m_images, .ref m_hasImage, .ref m_luck, .ref m_tape, .int 0, .ref m_five, .int 0, .int 0, .int 0, .int 0, .int 0, .int 0, .int (-1), .ref m_fresh, .ref m_waits, .int 0, .int 0, .int 0, .ref m_figures, .ref m_pile, .long 0, .ref m_times, .ref m_far, .ref m_queue, .ref m_months, .ref m_ways, .ref m_waysOn, .ref m_many, .ref m_width, .ref m_numbers, .ref m_moving])), (m_ways, .inl (cJ, 201, .inr (.inl (vp_updL f1 ((nI i) : Int32).toNatClampNeg 0)))), (m_waysOn, .inl (cK, 201, .inr (.inl g)))] := hD
      rw [nI_clamp (n := i) (by omega)] at hP hD
      have hP : va_P (dC, dI) vwCl [(h0, .inr (8, [.int 0, .ref m_world, .ref m_images, .ref m_hasImage, .ref m_luck, .ref m_tape, .int 0, .ref m_five, .int 0, .int 0, .int 0, .int 0, .int 0, .int 0, .int (-1), .ref m_fresh, .ref m_waits, .int 0, .int 0, .int 0, .ref m_figures, .ref m_pile, .long 0, .ref m_times, .ref m_far, .ref m_queue, .ref m_months, .ref m_ways, .ref m_waysOn, .ref m_many, .ref m_width, .ref m_numbers, .ref m_moving])), (m_ways, .inl (cJ, 201, .inr (.inl (vp_updL f1 i 0)))), (m_waysOn, .inl (cK, 201, .inr (.inl g)))] H := hP
      have hD : va_D A [(h0, .inr (8, [.int 0, .ref m_world, .ref m_images, .ref m_hasImage, .ref m_luck, .ref m_tape, .int 0, .ref m_five, .int 0, .int 0, .int 0, .int 0, .int 0, .int 0, .int (-1), .ref m_fresh, .ref m_waits, .int 0, .int 0, .int 0, .ref m_figures, .ref m_pile, .long 0, .ref m_times, .ref m_far, .ref m_queue, .ref m_months, .ref m_ways, .ref m_waysOn, .ref m_many, .ref m_width, .ref m_numbers, .ref m_moving])), (m_ways, .inl (cJ, 201, .inr (.inl (vp_updL f1 i 0)))), (m_waysOn, .inl (cK, 201, .inr (.inl g)))] := hD
      obtain ⟨z_18, ez_18⟩ : ∃ y : Int32, y = nI i + 1 := ⟨_, rfl⟩
      refine lv_iinc (v := z_18) (lv' := [(4, .int z_18), (0, .ref h0), (1, .int (nI nn)), (2, .int (nI lo)), (3, .int (nI hh))]) hx hb dX10_fillWays_28 hl (k := 0) rfl (by rw [ez_18]; rfl) (by decide) rfl (fun ls hl => ?_)
      obtain rfl : z_18 = nI (i + 1) := ez_18.trans (nI_add i 1)
      refine lv_goto (tgt := 3) hx hb dX10_fillWays_31 (by decide) ?_
      exact ih_3 (i + 1, vp_updL f1 i 0) _ _ _ ⟨(show (i + 1) ≤ 201 from (by omega)), (show ∀ j, j < (i + 1) → (vp_updL f1 i 0) j = TT lo hh 0 j from updLn (by have h9 := nc_17; simp [TT, h9]) hA), hP, hD, hS, lv_sub hl [0, 1, 2, 3, 4] rfl⟩ (show 202 - (i + 1) < 202 - i by omega)
    ·
      have nc_17 : i = 0 := (nI_eq (a := i) (b := 0) (by omega) (by omega)).mp c_17
      refine lv_lconst (v := 1) hx hb dX10_fillWays_22 (by decide) ?_
      refine lv_goto (tgt := 27) hx hb dX10_fillWays_23 (by decide) ?_
      refine va_last hx hb hK hP hD hS 1 0 rfl rfl (vp_in_nI (n := i) (by omega) (by decide)) dX10_fillWays_27 (fun H locs hP hD hS => ?_)
      have hP : va_P (dC, dI) vwCl [(h0, .inr (8, [.int 0, .ref m_world, .ref m_images, .ref m_hasImage, .ref m_luck, .ref m_tape, .int 0, .ref m_five, .int 0, .int 0, .int 0, .int 0, .int 0, .int 0, .int (-1), .ref m_fresh, .ref m_waits, .int 0, .int 0, .int 0, .ref m_figures, .ref m_pile, .long 0, .ref m_times, .ref m_far, .ref m_queue, .ref m_months, .ref m_ways, .ref m_waysOn, .ref m_many, .ref m_width, .ref m_numbers, .ref m_moving])), (m_ways, .inl (cJ, 201, .inr (.inl (vp_updL f1 ((nI i) : Int32).toNatClampNeg 1)))), (m_waysOn, .inl (cK, 201, .inr (.inl g)))] H := hP
      have hD : va_D A [(h0, .inr (8, [.int 0, .ref m_world, .ref m_images, .ref m_hasImage, .ref m_luck, .ref m_tape, .int 0, .ref m_five, .int 0, .int 0, .int 0, .int 0, .int 0, .int 0, .int (-1), .ref m_fresh, .ref m_waits, .int 0, .int 0, .int 0, .ref m_figures, .ref m_pile, .long 0, .ref m_times, .ref m_far, .ref m_queue, .ref m_months, .ref m_ways, .ref m_waysOn, .ref m_many, .ref m_width, .ref m_numbers, .ref m_moving])), (m_ways, .inl (cJ, 201, .inr (.inl (vp_updL f1 ((nI i) : Int32).toNatClampNeg 1)))), (m_waysOn, .inl (cK, 201, .inr (.inl g)))] := hD
      rw [nI_clamp (n := i) (by omega)] at hP hD
      have hP : va_P (dC, dI) vwCl [(h0, .inr (8, [.int 0, .ref m_world, .ref m_images, .ref m_hasImage, .ref m_luck, .ref m_tape, .int 0, .ref m_five, .int 0, .int 0, .int 0, .int 0, .int 0, .int 0, .int (-1), .ref m_fresh, .ref m_waits, .int 0, .int 0, .int 0, .ref m_figures, .ref m_pile, .long 0, .ref m_times, .ref m_far, .ref m_queue, .ref m_months, .ref m_ways, .ref m_waysOn, .ref m_many, .ref m_width, .ref m_numbers, .ref m_moving])), (m_ways, .inl (cJ, 201, .inr (.inl (vp_updL f1 i 1)))), (m_waysOn, .inl (cK, 201, .inr (.inl g)))] H := hP
      have hD : va_D A [(h0, .inr (8, [.int 0, .ref m_world, .ref m_images, .ref m_hasImage, .ref m_luck, .ref m_tape, .int 0, .ref m_five, .int 0, .int 0, .int 0, .int 0, .int 0, .int 0, .int (-1), .ref m_fresh, .ref m_waits, .int 0, .int 0, .int 0, .ref m_figures, .ref m_pile, .long 0, .ref m_times, .ref m_far, .ref m_queue, .ref m_months, .ref m_ways, .ref m_waysOn, .ref m_many, .ref m_width, .ref m_numbers, .ref m_moving])), (m_ways, .inl (cJ, 201, .inr (.inl (vp_updL f1 i 1)))), (m_waysOn, .inl (cK, 201, .inr (.inl g)))] := hD
      obtain ⟨z_19, ez_19⟩ : ∃ y : Int32, y = nI i + 1 := ⟨_, rfl⟩
      refine lv_iinc (v := z_19) (lv' := [(4, .int z_19), (0, .ref h0), (1, .int (nI nn)), (2, .int (nI lo)), (3, .int (nI hh))]) hx hb dX10_fillWays_28 hl (k := 0) rfl (by rw [ez_19]; rfl) (by decide) rfl (fun ls hl => ?_)
      obtain rfl : z_19 = nI (i + 1) := ez_19.trans (nI_add i 1)
      refine lv_goto (tgt := 3) hx hb dX10_fillWays_31 (by decide) ?_
      exact ih_3 (i + 1, vp_updL f1 i 1) _ _ _ ⟨(show (i + 1) ≤ 201 from (by omega)), (show ∀ j, j < (i + 1) → (vp_updL f1 i 1) j = TT lo hh 0 j from updLn (by have h9 := nc_17; simp [TT, h9]) hA), hP, hD, hS, lv_sub hl [0, 1, 2, 3, 4] rfl⟩ (show 202 - (i + 1) < 202 - i by omega)
