theorem hv_z {n b s : Nat} (hn : n ≤ 12) (hb : b ≤ 16) (h : 181 ≤ s) : n / 2 * (b - 1) < s := by
  have e : n / 2 * (b - 1) ≤ 6 * 15 := Nat.mul_le_mul (by omega) (by omega)
  omega
theorem ms_z {n b s : Nat} (hn : n ≤ 12) (hb : b ≤ 16) (h : 180 < s) : n * (b - 1) < s := by
  have e : n * (b - 1) ≤ 12 * 15 := Nat.mul_le_mul hn (by omega)
  omega
theorem dX10_of_0 : decode cX10_of 0 = .ok (.iload_n 1, 1) := by decide +kernel
theorem dX10_of_1 : decode cX10_of 1 = .ok (.iload_n 2, 1) := by decide +kernel
theorem dX10_of_2 : decode cX10_of 2 = .ok (.invokestatic 457, 3) := by decide +kernel
theorem dX10_of_5 : decode cX10_of 5 = .ok (.ifCond .eq 15, 3) := by decide +kernel
theorem dX10_of_8 : decode cX10_of 8 = .ok (.iload_n 3, 1) := by decide +kernel
theorem dX10_of_9 : decode cX10_of 9 = .ok (.i2l, 1) := by decide +kernel
theorem dX10_of_10 : decode cX10_of 10 = .ok (.lconst 0, 1) := by decide +kernel
theorem dX10_of_11 : decode cX10_of 11 = .ok (.ldc2_w 460, 3) := by decide +kernel
theorem dX10_of_14 : decode cX10_of 14 = .ok (.invokestatic 82, 3) := by decide +kernel
theorem dX10_of_17 : decode cX10_of 17 = .ok (.ifCond .ne 7, 3) := by decide +kernel
theorem dX10_of_20 : decode cX10_of 20 = .ok (.ldc2_w 416, 3) := by decide +kernel
theorem dX10_of_23 : decode cX10_of 23 = .ok (.lreturn, 1) := by decide +kernel
theorem dX10_of_24 : decode cX10_of 24 = .ok (.aload_n 0, 1) := by decide +kernel
theorem dX10_of_25 : decode cX10_of 25 = .ok (.iload_n 1, 1) := by decide +kernel
theorem dX10_of_26 : decode cX10_of 26 = .ok (.iconst 0, 1) := by decide +kernel
theorem dX10_of_27 : decode cX10_of 27 = .ok (.iload_n 2, 1) := by decide +kernel
theorem dX10_of_28 : decode cX10_of 28 = .ok (.iconst 1, 1) := by decide +kernel
theorem dX10_of_29 : decode cX10_of 29 = .ok (.isub, 1) := by decide +kernel
theorem dX10_of_30 : decode cX10_of 30 = .ok (.invokevirtual 462, 3) := by decide +kernel
theorem dX10_of_33 : decode cX10_of 33 = .ok (.aload_n 0, 1) := by decide +kernel
theorem dX10_of_34 : decode cX10_of 34 = .ok (.getfield 58, 3) := by decide +kernel
theorem dX10_of_37 : decode cX10_of 37 = .ok (.iload_n 3, 1) := by decide +kernel
theorem dX10_of_38 : decode cX10_of 38 = .ok (.laload, 1) := by decide +kernel
theorem dX10_of_39 : decode cX10_of 39 = .ok (.lreturn, 1) := by decide +kernel
def uX10_of : List Cond := .code yX10_of cX10_of 4 (some .long) :: ([.methodLink RX10 457 yX10_isLong, .static yX10_isLong, .initialized RX10, .code yX10_isLong cX10_isLong 2 (some .boolean), .constantLong RX10 453 (12), .methodLink RX10 82 yX10_in, .static yX10_in, .code yX10_in cX10_in 6 (some .boolean), .constantLong RX10 80 (2), .constantLong RX10 455 (16), .constantLong RX10 416 (-2), .constantLong RX10 460 (180), .methodLink RX10 462 yX10_fillWays, .instanceMethod yX10_fillWays, .selects RX10 yX10_fillWays yX10_fillWays, .code yX10_fillWays cX10_fillWays 7 none, .fieldLink RX10 58 "LuckyTicketModel" "ways" "[J", .fieldLink RX10 62 "LuckyTicketModel" "waysOn" "[J"] ++ wsX100)
theorem iX10_of_X10 : ∀ w ∈ wsX100, w ∈ uX10_of := fun _ h => List.mem_cons_of_mem _ (List.mem_append_right _ h)
set_option maxRecDepth 20000 in
theorem gX10_of__X10_isLong_S457 : GoodIn uX10_of (va_wsS RX10 457 yX10_isLong uX10_isLong) := goodIn_p _ [4, 8] rfl (by decide +kernel)
set_option maxRecDepth 20000 in
theorem gX10_of__X10_in_S82 : GoodIn uX10_of (va_wsS RX10 82 yX10_in uX10_in) := goodIn_p _ [8] rfl (by decide +kernel)
set_option maxRecDepth 20000 in
theorem gX10_of__X10_fillWays_V462 : GoodIn uX10_of (wsV RX10 462 RX10 yX10_fillWays uX10_fillWays) := goodIn_p _ [16] rfl (by decide +kernel)
set_option maxHeartbeats 4000000 in
set_option maxRecDepth 100000 in
theorem kX10_of (l : Launch) (dC : Nat → ClassId) (dI : Nat → Nat → Nat) (h0 : Nat) (m_world : Nat) (m_images : Nat) (m_hasImage : Nat) (m_luck : Nat) (m_tape : Nat) (m_five : Nat) (m_fresh : Nat) (m_waits : Nat) (m_figures : Nat) (m_pile : Nat) (m_times : Nat) (m_far : Nat) (m_queue : Nat) (m_months : Nat) (m_ways : Nat) (m_waysOn : Nat) (m_many : Nat) (m_width : Nat) (m_numbers : Nat) (m_moving : Nat) (cJ : ClassId) (cK : ClassId) (f : Nat → Int64) (g : Nat → Int64) (a1 : Int32) (a2 : Int32) (a3 : Int32) (sz : Nat) : Met l yX10_of uX10_of ({ frames := 2, cells := 0, slots := 0, locals := 46 }) (va_Pc [.ref h0, .int a1, .int a2, .int a3] (hw (dC, dI) vwCl [(h0, .inr (8, [.int 0, .ref m_world, .ref m_images, .ref m_hasImage, .ref m_luck, .ref m_tape, .int 0, .ref m_five, .int 0, .int 0, .int 0, .int 0, .int 0, .int 0, .int (-1), .ref m_fresh, .ref m_waits, .int 0, .int 0, .int 0, .ref m_figures, .ref m_pile, .long 0, .ref m_times, .ref m_far, .ref m_queue, .ref m_months, .ref m_ways, .ref m_waysOn, .ref m_many, .ref m_width, .ref m_numbers, .ref m_moving])), (m_ways, .inl (cJ, 201, .inr (.inl f))), (m_waysOn, .inl (cK, 201, .inr (.inl g)))] [(cJ, .long), (cK, .long)] sz)) (va_Ql (fun (r : Int64) (_ : Unit) => r = ofv a1 a2 a3) (fun (_ : Unit) t => va_P (dC, dI) vwCl [] t.heap ∧ va_K (dC, dI) vwCl [] t ∧ va_D (va_A [(h0, .inr (8, [.int 0, .ref m_world, .ref m_images, .ref m_hasImage, .ref m_luck, .ref m_tape, .int 0, .ref m_five, .int 0, .int 0, .int 0, .int 0, .int 0, .int 0, .int (-1), .ref m_fresh, .ref m_waits, .int 0, .int 0, .int 0, .ref m_figures, .ref m_pile, .long 0, .ref m_times, .ref m_far, .ref m_queue, .ref m_months, .ref m_ways, .ref m_waysOn, .ref m_many, .ref m_width, .ref m_numbers, .ref m_moving])), (m_ways, .inl (cJ, 201, .inr (.inl f))), (m_waysOn, .inl (cK, 201, .inr (.inl g)))] sz) []) (va_A [(h0, .inr (8, [.int 0, .ref m_world, .ref m_images, .ref m_hasImage, .ref m_luck, .ref m_tape, .int 0, .ref m_five, .int 0, .int 0, .int 0, .int 0, .int 0, .int 0, .int (-1), .ref m_fresh, .ref m_waits, .int 0, .int 0, .int 0, .ref m_figures, .ref m_pile, .long 0, .ref m_times, .ref m_far, .ref m_queue, .ref m_months, .ref m_ways, .ref m_waysOn, .ref m_many, .ref m_width, .ref m_numbers, .ref m_moving])), (m_ways, .inl (cJ, 201, .inr (.inl f))), (m_waysOn, .inl (cK, 201, .inr (.inl g)))] sz)) 0 0 (va_A [(h0, .inr (8, [.int 0, .ref m_world, .ref m_images, .ref m_hasImage, .ref m_luck, .ref m_tape, .int 0, .ref m_five, .int 0, .int 0, .int 0, .int 0, .int 0, .int 0, .int (-1), .ref m_fresh, .ref m_waits, .int 0, .int 0, .int 0, .ref m_figures, .ref m_pile, .long 0, .ref m_times, .ref m_far, .ref m_queue, .ref m_months, .ref m_ways, .ref m_waysOn, .ref m_many, .ref m_width, .ref m_numbers, .ref m_moving])), (m_ways, .inl (cJ, 201, .inr (.inl f))), (m_waysOn, .inl (cK, 201, .inr (.inl g)))] sz) := by
  refine Met.ofW (cc := cX10_of) (maxL := 4) (ret := (some .long)) (by decide) rfl ?_
  intro p e s m args below meth c s₁ B hml hv
  obtain ⟨rfl, hsz, hP, hK, hD0, hN⟩ := hv
  have hx := B.exec
  have hb := B.bytes
  have hr := B.returns
  have hts := atoms_spec (ws := uX10_of) B.pre
  have hown : s.vm.findClass RX10 = some m.cls := findClass_of_methodNamed B.named
  have hlocks := B.notSynchronized
  subst hsz
  have hD := hD0.self (sz := s.heap.size)
  generalize hAe : va_A [(h0, .inr (8, [.int 0, .ref m_world, .ref m_images, .ref m_hasImage, .ref m_luck, .ref m_tape, .int 0, .ref m_five, .int 0, .int 0, .int 0, .int 0, .int 0, .int 0, .int (-1), .ref m_fresh, .ref m_waits, .int 0, .int 0, .int 0, .ref m_figures, .ref m_pile, .long 0, .ref m_times, .ref m_far, .ref m_queue, .ref m_months, .ref m_ways, .ref m_waysOn, .ref m_many, .ref m_width, .ref m_numbers, .ref m_moving])), (m_ways, .inl (cJ, 201, .inr (.inl f))), (m_waysOn, .inl (cK, 201, .inr (.inl g)))] s.heap.size = A at hD ⊢
  have hA : ∀ q : Nat, s.heap.size ≤ q → A q := fun q h => by rw [← hAe]; exact Or.inr h
  have hS : va_S A s.heap s.heap [] := va_S.rf
  have hP : va_P (dC, dI) vwCl [(h0, .inr (8, [.int 0, .ref m_world, .ref m_images, .ref m_hasImage, .ref m_luck, .ref m_tape, .int 0, .ref m_five, .int 0, .int 0, .int 0, .int 0, .int 0, .int 0, .int (-1), .ref m_fresh, .ref m_waits, .int 0, .int 0, .int 0, .ref m_figures, .ref m_pile, .long 0, .ref m_times, .ref m_far, .ref m_queue, .ref m_months, .ref m_ways, .ref m_waysOn, .ref m_many, .ref m_width, .ref m_numbers, .ref m_moving])), (m_ways, .inl (cJ, 201, .inr (.inl f))), (m_waysOn, .inl (cK, 201, .inr (.inl g)))] s.heap := hP
  have hl := lv_entry ([.ref h0, .int a1, .int a2, .int a3]) (n := 4) (Nat.le_of_ble_eq_true rfl)
  rw [lg_entry_eq]
  generalize (lg_sl ([.ref h0, .int a1, .int a2, .int a3]) ++ List.replicate (4 - (lg_sl ([.ref h0, .int a1, .int a2, .int a3])).length) Slot.unset).toArray = ls at hl ⊢
  have hl : lv_has ls 4 [(0, .ref h0), (1, .int a1), (2, .int a2), (3, .int a3)] := hl
  refine lv_iload_n hx hb dX10_of_0 rfl (lv_at hl 1 rfl) ?_
  refine lv_iload_n hx hb dX10_of_1 rfl (lv_at hl 2 rfl) ?_
  refine vp_callSi (W.runS (As := [.int a1, .int a2]) (rest := []) ⟨hx, hb, hml, hown, hts⟩ (kX10_isLong l dC dI a1 a2) (va_cwS 2 hts gX10_of__X10_isLong_S457 rfl rfl rfl (by decide +kernel) ⟨lel 2 2 rfl, lel 46 46 rfl⟩) ⟨pn_fb, pn_use⟩ rfl rfl hl.1 rfl (lv_room (Nat.le_of_ble_eq_true rfl)) dX10_of_2 ⟨lel 0 0 rfl, lel 0 0 rfl⟩) (fun r_1 hr_1 => ?_)
  refine lv_if_eq (tgt := 20) hx hb dX10_of_5 (by decide) (fun c_2 => ?_) (fun c_2 => ?_)
  ·
    refine lv_ldc2 (v := (-2)) hx hb hown (hts (.constantLong RX10 416 (-2)) (List.mem_of_getElem? (i := 11) rfl)) dX10_of_20 ?_
    have hP9 := hP.sub (ws' := []) [] rfl
    have hD9 := hD.sub (ws' := []) [] (by decide) rfl
    have hK9 := hK.sub (tys' := []) [] rfl
    exact W.lret (v := (-2)) hx hb hr (fun t ht hW => ⟨⟨(-2), (), rfl, of_a (hr_1.symm.trans c_2), by rw [ht]; exact hP9, va_K.moved hW.alike hK9, hD9⟩, hS.F ht⟩) hS.2.2 dX10_of_23
  ·
    refine lv_iload_n hx hb dX10_of_8 rfl (lv_at hl 3 rfl) ?_
    refine lv_i2l (v := a3.toInt64) hx hb dX10_of_9 rfl ?_
    refine lv_lconst (v := 0) hx hb dX10_of_10 (by decide) ?_
    refine lv_ldc2 (v := 180) hx hb hown (hts (.constantLong RX10 460 (180)) (List.mem_of_getElem? (i := 12) rfl)) dX10_of_11 ?_
    refine vp_callSi (W.runS (As := [.long a3.toInt64, .long 0, .long 180]) (rest := []) ⟨hx, hb, hml, hown, hts⟩ (kX10_in l dC dI a3.toInt64 0 180) (va_cwS 3 hts gX10_of__X10_in_S82 rfl rfl rfl (by decide +kernel) ⟨lel 1 2 rfl, lel 25 46 rfl⟩) ⟨pn_fb, pn_use⟩ rfl rfl hl.1 rfl (lv_room (Nat.le_of_ble_eq_true rfl)) dX10_of_14 ⟨lel 0 0 rfl, lel 0 0 rfl⟩) (fun r_3 hr_3 => ?_)
    refine lv_if_ne (tgt := 24) hx hb dX10_of_17 (by decide) (fun c_4 => ?_) (fun c_4 => ?_)
    ·
      have hil : ¬ il a1 a2 = 0 := fun e => c_2 (hr_1.trans e)
      have hth : ¬ wi a3 0 180 = 0 := fun e => c_4 (hr_3.trans ((inr_wi a3 0 180).trans e))
      obtain ⟨nn, bb, hn1, hn2, hb2, hb3, rfl, rfl⟩ := il_yes hil
      obtain ⟨qq, hq, rfl⟩ := wi_180 hth
      refine lv_aload_n hx hb dX10_of_24 rfl (lv_at hl 0 rfl) ?_
      refine lv_iload_n hx hb dX10_of_25 rfl (lv_at hl 1 rfl) ?_
      refine lv_iconst (v := 0) hx hb dX10_of_26 (by decide) ?_
      refine lv_iload_n hx hb dX10_of_27 rfl (lv_at hl 2 rfl) ?_
      refine lv_iconst (v := 1) hx hb dX10_of_28 (by decide) ?_
      refine lv_isub hx hb dX10_of_29 ?_
      refine lv_topi (fun z_5 ez_5 => ?_)
      obtain rfl : z_5 = nI (bb - 1) := ez_5.trans (pk_sub (a := bb) (b := 1) (by omega))
      have hFc := va_free (wc := [(h0, .inr (8, [.int 0, .ref m_world, .ref m_images, .ref m_hasImage, .ref m_luck, .ref m_tape, .int 0, .ref m_five, .int 0, .int 0, .int 0, .int 0, .int 0, .int 0, .int (-1), .ref m_fresh, .ref m_waits, .int 0, .int 0, .int 0, .ref m_figures, .ref m_pile, .long 0, .ref m_times, .ref m_far, .ref m_queue, .ref m_months, .ref m_ways, .ref m_waysOn, .ref m_many, .ref m_width, .ref m_numbers, .ref m_moving])), (m_ways, .inl (cJ, 201, .inr (.inl f))), (m_waysOn, .inl (cK, 201, .inr (.inl g)))]) hD hS hA [0, 1, 2] rfl
      refine va_callv (va_runV (As := [.int (nI nn), .int 0, .int (nI (bb - 1))]) (rest := []) ⟨hx, hb, hml, hown, hts⟩ (kX10_fillWays l dC dI h0 m_world m_images m_hasImage m_luck m_tape m_five m_fresh m_waits m_figures m_pile m_times m_far m_queue m_months m_ways m_waysOn m_many m_width m_numbers m_moving cJ cK f g nn 0 (bb - 1) (s.heap.size) (by omega) (by omega) (by omega)) (cwV 3 hts gX10_of__X10_fillWays_V462 rfl rfl rfl (by decide +kernel) ⟨lel 1 2 rfl, lel 26 46 rfl⟩) ⟨hw_fb, va_recv hK hP (ci := 8) (q0 := 0) rfl rfl, (hw_use hP hD hK hN [0, 1, 2] rfl (by decide) rfl [0, 1] rfl)⟩ rfl rfl hl.1 rfl (lv_room (Nat.le_of_ble_eq_true rfl)) dX10_of_30 ⟨lel 0 0 rfl, lel 0 0 rfl⟩) hS (fun q _ h => hFc q h) hFc (fun u_7 t H1 locs ht hvm hwr_6 hB hz1 hk1 hS => ?_)
      obtain ⟨f9_8, g9_9, hf_10, hP1, hK1, hD1⟩ := hB
      rw [ht] at hP1
      have hK1 := va_K.moved hvm.symm hK1
      obtain ⟨hP, hD⟩ := va_join (wr := []) (w1 := [(h0, .inr (8, [.int 0, .ref m_world, .ref m_images, .ref m_hasImage, .ref m_luck, .ref m_tape, .int 0, .ref m_five, .int 0, .int 0, .int 0, .int 0, .int 0, .int 0, .int (-1), .ref m_fresh, .ref m_waits, .int 0, .int 0, .int 0, .ref m_figures, .ref m_pile, .long 0, .ref m_times, .ref m_far, .ref m_queue, .ref m_months, .ref m_ways, .ref m_waysOn, .ref m_many, .ref m_width, .ref m_numbers, .ref m_moving])), (m_ways, .inl (cJ, 201, .inr (.inl f9_8))), (m_waysOn, .inl (cK, 201, .inr (.inl g9_9)))]) hP hD [0, 1, 2] [] rfl rfl (by decide) (by decide) hk1 hFc hP1 hD1
      have hK := (hK.sub (tys' := []) [] rfl).app hK1
      generalize H1 = H at hP hS ⊢
      have hP : va_P (dC, dI) vwCl [(h0, .inr (8, [.int 0, .ref m_world, .ref m_images, .ref m_hasImage, .ref m_luck, .ref m_tape, .int 0, .ref m_five, .int 0, .int 0, .int 0, .int 0, .int 0, .int 0, .int (-1), .ref m_fresh, .ref m_waits, .int 0, .int 0, .int 0, .ref m_figures, .ref m_pile, .long 0, .ref m_times, .ref m_far, .ref m_queue, .ref m_months, .ref m_ways, .ref m_waysOn, .ref m_many, .ref m_width, .ref m_numbers, .ref m_moving])), (m_ways, .inl (cJ, 201, .inr (.inl f9_8))), (m_waysOn, .inl (cK, 201, .inr (.inl g9_9)))] H := hP
      have hD : va_D A [(h0, .inr (8, [.int 0, .ref m_world, .ref m_images, .ref m_hasImage, .ref m_luck, .ref m_tape, .int 0, .ref m_five, .int 0, .int 0, .int 0, .int 0, .int 0, .int 0, .int (-1), .ref m_fresh, .ref m_waits, .int 0, .int 0, .int 0, .ref m_figures, .ref m_pile, .long 0, .ref m_times, .ref m_far, .ref m_queue, .ref m_months, .ref m_ways, .ref m_waysOn, .ref m_many, .ref m_width, .ref m_numbers, .ref m_moving])), (m_ways, .inl (cJ, 201, .inr (.inl f9_8))), (m_waysOn, .inl (cK, 201, .inr (.inl g9_9)))] := hD
      have hK : va_K (dC, dI) vwCl [(cJ, .long), (cK, .long)] s := hK
      refine lv_aload_n hx hb dX10_of_33 rfl (lv_at hl 0 rfl) ?_
      refine va_get (D := (dC, dI)) (ci := 8) (v := .ref m_ways) (C := RX10) (T := TX10) (N := 33) hx hb hts iX10_of_X10 hown hK hP 0 rfl rfl 27 (by decide) (hts (.fieldLink RX10 58 "LuckyTicketModel" "ways" "[J") (List.mem_of_getElem? (i := 17) rfl)) (fun _ h9 => h9) rfl dX10_of_34 ?_
      refine lv_iload_n hx hb dX10_of_37 rfl (lv_at hl 3 rfl) ?_
      refine va_lald hx hb hK hP 1 0 rfl rfl (vp_in_nI (n := qq) (by omega) (by decide)) dX10_of_38 ?_
      refine lv_topl (fun z_11 ez_11 => ?_)
      rw [nI_clamp (n := qq) (by omega)] at ez_11
      have hP9 := hP.sub (ws' := []) [] rfl
      have hD9 := hD.sub (ws' := []) [] (by decide) rfl
      have hK9 := hK.sub (tys' := []) [] rfl
      exact W.lret (v := z_11) hx hb hr (fun t ht hW => ⟨⟨z_11, (), rfl, of_c hil hth hn2 hb3 hq (ez_11.trans (hf_10 _ (by omega))), by rw [ht]; exact hP9, va_K.moved hW.alike hK9, hD9⟩, hS.F ht⟩) hS.2.2 dX10_of_39
    ·
      refine lv_ldc2 (v := (-2)) hx hb hown (hts (.constantLong RX10 416 (-2)) (List.mem_of_getElem? (i := 11) rfl)) dX10_of_20 ?_
      have hP9 := hP.sub (ws' := []) [] rfl
      have hD9 := hD.sub (ws' := []) [] (by decide) rfl
      have hK9 := hK.sub (tys' := []) [] rfl
      exact W.lret (v := (-2)) hx hb hr (fun t ht hW => ⟨⟨(-2), (), rfl, of_b ((inr_wi a3 0 180).symm.trans (hr_3.symm.trans c_4)), by rw [ht]; exact hP9, va_K.moved hW.alike hK9, hD9⟩, hS.F ht⟩) hS.2.2 dX10_of_23
theorem dX10_middle_0 : decode cX10_middle 0 = .ok (.iload_n 1, 1) := by decide +kernel
theorem dX10_middle_1 : decode cX10_middle 1 = .ok (.iload_n 2, 1) := by decide +kernel
theorem dX10_middle_2 : decode cX10_middle 2 = .ok (.invokestatic 457, 3) := by decide +kernel
theorem dX10_middle_5 : decode cX10_middle 5 = .ok (.ifCond .ne 7, 3) := by decide +kernel
theorem dX10_middle_8 : decode cX10_middle 8 = .ok (.ldc2_w 416, 3) := by decide +kernel
theorem dX10_middle_11 : decode cX10_middle 11 = .ok (.lreturn, 1) := by decide +kernel
theorem dX10_middle_12 : decode cX10_middle 12 = .ok (.aload_n 0, 1) := by decide +kernel
theorem dX10_middle_13 : decode cX10_middle 13 = .ok (.iload_n 1, 1) := by decide +kernel
theorem dX10_middle_14 : decode cX10_middle 14 = .ok (.iconst 0, 1) := by decide +kernel
theorem dX10_middle_15 : decode cX10_middle 15 = .ok (.iload_n 2, 1) := by decide +kernel
theorem dX10_middle_16 : decode cX10_middle 16 = .ok (.iconst 1, 1) := by decide +kernel
theorem dX10_middle_17 : decode cX10_middle 17 = .ok (.isub, 1) := by decide +kernel
theorem dX10_middle_18 : decode cX10_middle 18 = .ok (.invokevirtual 462, 3) := by decide +kernel
theorem dX10_middle_21 : decode cX10_middle 21 = .ok (.aload_n 0, 1) := by decide +kernel
theorem dX10_middle_22 : decode cX10_middle 22 = .ok (.getfield 58, 3) := by decide +kernel
theorem dX10_middle_25 : decode cX10_middle 25 = .ok (.iload_n 2, 1) := by decide +kernel
theorem dX10_middle_26 : decode cX10_middle 26 = .ok (.iconst 1, 1) := by decide +kernel
theorem dX10_middle_27 : decode cX10_middle 27 = .ok (.isub, 1) := by decide +kernel
theorem dX10_middle_28 : decode cX10_middle 28 = .ok (.iload_n 1, 1) := by decide +kernel
theorem dX10_middle_29 : decode cX10_middle 29 = .ok (.imul, 1) := by decide +kernel
theorem dX10_middle_30 : decode cX10_middle 30 = .ok (.iconst 2, 1) := by decide +kernel
theorem dX10_middle_31 : decode cX10_middle 31 = .ok (.idiv, 1) := by decide +kernel
theorem dX10_middle_32 : decode cX10_middle 32 = .ok (.laload, 1) := by decide +kernel
theorem dX10_middle_33 : decode cX10_middle 33 = .ok (.lreturn, 1) := by decide +kernel
def uX10_middle : List Cond := .code yX10_middle cX10_middle 3 (some .long) :: ([.methodLink RX10 457 yX10_isLong, .static yX10_isLong, .initialized RX10, .code yX10_isLong cX10_isLong 2 (some .boolean), .constantLong RX10 453 (12), .methodLink RX10 82 yX10_in, .static yX10_in, .code yX10_in cX10_in 6 (some .boolean), .constantLong RX10 80 (2), .constantLong RX10 455 (16), .methodLink RX10 462 yX10_fillWays, .instanceMethod yX10_fillWays, .selects RX10 yX10_fillWays yX10_fillWays, .code yX10_fillWays cX10_fillWays 7 none, .fieldLink RX10 58 "LuckyTicketModel" "ways" "[J", .fieldLink RX10 62 "LuckyTicketModel" "waysOn" "[J", .constantLong RX10 416 (-2)] ++ wsX100)
theorem iX10_middle_X10 : ∀ w ∈ wsX100, w ∈ uX10_middle := fun _ h => List.mem_cons_of_mem _ (List.mem_append_right _ h)
set_option maxRecDepth 20000 in
theorem gX10_middle__X10_isLong_S457 : GoodIn uX10_middle (va_wsS RX10 457 yX10_isLong uX10_isLong) := goodIn_p _ [4, 8] rfl (by decide +kernel)
set_option maxRecDepth 20000 in
theorem gX10_middle__X10_fillWays_V462 : GoodIn uX10_middle (wsV RX10 462 RX10 yX10_fillWays uX10_fillWays) := goodIn_p _ [14] rfl (by decide +kernel)
set_option maxHeartbeats 4000000 in
set_option maxRecDepth 100000 in
theorem kX10_middle (l : Launch) (dC : Nat → ClassId) (dI : Nat → Nat → Nat) (h0 : Nat) (m_world : Nat) (m_images : Nat) (m_hasImage : Nat) (m_luck : Nat) (m_tape : Nat) (m_five : Nat) (m_fresh : Nat) (m_waits : Nat) (m_figures : Nat) (m_pile : Nat) (m_times : Nat) (m_far : Nat) (m_queue : Nat) (m_months : Nat) (m_ways : Nat) (m_waysOn : Nat) (m_many : Nat) (m_width : Nat) (m_numbers : Nat) (m_moving : Nat) (cJ : ClassId) (cK : ClassId) (f : Nat → Int64) (g : Nat → Int64) (a1 : Int32) (a2 : Int32) (sz : Nat) : Met l yX10_middle uX10_middle ({ frames := 2, cells := 0, slots := 0, locals := 46 }) (va_Pc [.ref h0, .int a1, .int a2] (hw (dC, dI) vwCl [(h0, .inr (8, [.int 0, .ref m_world, .ref m_images, .ref m_hasImage, .ref m_luck, .ref m_tape, .int 0, .ref m_five, .int 0, .int 0, .int 0, .int 0, .int 0, .int 0, .int (-1), .ref m_fresh, .ref m_waits, .int 0, .int 0, .int 0, .ref m_figures, .ref m_pile, .long 0, .ref m_times, .ref m_far, .ref m_queue, .ref m_months, .ref m_ways, .ref m_waysOn, .ref m_many, .ref m_width, .ref m_numbers, .ref m_moving])), (m_ways, .inl (cJ, 201, .inr (.inl f))), (m_waysOn, .inl (cK, 201, .inr (.inl g)))] [(cJ, .long), (cK, .long)] sz)) (va_Ql (fun (r : Int64) (_ : Unit) => r = mdv a1 a2) (fun (_ : Unit) t => va_P (dC, dI) vwCl [] t.heap ∧ va_K (dC, dI) vwCl [] t ∧ va_D (va_A [(h0, .inr (8, [.int 0, .ref m_world, .ref m_images, .ref m_hasImage, .ref m_luck, .ref m_tape, .int 0, .ref m_five, .int 0, .int 0, .int 0, .int 0, .int 0, .int 0, .int (-1), .ref m_fresh, .ref m_waits, .int 0, .int 0, .int 0, .ref m_figures, .ref m_pile, .long 0, .ref m_times, .ref m_far, .ref m_queue, .ref m_months, .ref m_ways, .ref m_waysOn, .ref m_many, .ref m_width, .ref m_numbers, .ref m_moving])), (m_ways, .inl (cJ, 201, .inr (.inl f))), (m_waysOn, .inl (cK, 201, .inr (.inl g)))] sz) []) (va_A [(h0, .inr (8, [.int 0, .ref m_world, .ref m_images, .ref m_hasImage, .ref m_luck, .ref m_tape, .int 0, .ref m_five, .int 0, .int 0, .int 0, .int 0, .int 0, .int 0, .int (-1), .ref m_fresh, .ref m_waits, .int 0, .int 0, .int 0, .ref m_figures, .ref m_pile, .long 0, .ref m_times, .ref m_far, .ref m_queue, .ref m_months, .ref m_ways, .ref m_waysOn, .ref m_many, .ref m_width, .ref m_numbers, .ref m_moving])), (m_ways, .inl (cJ, 201, .inr (.inl f))), (m_waysOn, .inl (cK, 201, .inr (.inl g)))] sz)) 0 0 (va_A [(h0, .inr (8, [.int 0, .ref m_world, .ref m_images, .ref m_hasImage, .ref m_luck, .ref m_tape, .int 0, .ref m_five, .int 0, .int 0, .int 0, .int 0, .int 0, .int 0, .int (-1), .ref m_fresh, .ref m_waits, .int 0, .int 0, .int 0, .ref m_figures, .ref m_pile, .long 0, .ref m_times, .ref m_far, .ref m_queue, .ref m_months, .ref m_ways, .ref m_waysOn, .ref m_many, .ref m_width, .ref m_numbers, .ref m_moving])), (m_ways, .inl (cJ, 201, .inr (.inl f))), (m_waysOn, .inl (cK, 201, .inr (.inl g)))] sz) := by
  refine Met.ofW (cc := cX10_middle) (maxL := 3) (ret := (some .long)) (by decide) rfl ?_
  intro p e s m args below meth c s₁ B hml hv
  obtain ⟨rfl, hsz, hP, hK, hD0, hN⟩ := hv
  have hx := B.exec
  have hb := B.bytes
  have hr := B.returns
  have hts := atoms_spec (ws := uX10_middle) B.pre
  have hown : s.vm.findClass RX10 = some m.cls := findClass_of_methodNamed B.named
  have hlocks := B.notSynchronized
  subst hsz
  have hD := hD0.self (sz := s.heap.size)
  generalize hAe : va_A [(h0, .inr (8, [.int 0, .ref m_world, .ref m_images, .ref m_hasImage, .ref m_luck, .ref m_tape, .int 0, .ref m_five, .int 0, .int 0, .int 0, .int 0, .int 0, .int 0, .int (-1), .ref m_fresh, .ref m_waits, .int 0, .int 0, .int 0, .ref m_figures, .ref m_pile, .long 0, .ref m_times, .ref m_far, .ref m_queue, .ref m_months, .ref m_ways, .ref m_waysOn, .ref m_many, .ref m_width, .ref m_numbers, .ref m_moving])), (m_ways, .inl (cJ, 201, .inr (.inl f))), (m_waysOn, .inl (cK, 201, .inr (.inl g)))] s.heap.size = A at hD ⊢
  have hA : ∀ q : Nat, s.heap.size ≤ q → A q := fun q h => by rw [← hAe]; exact Or.inr h
  have hS : va_S A s.heap s.heap [] := va_S.rf
  have hP : va_P (dC, dI) vwCl [(h0, .inr (8, [.int 0, .ref m_world, .ref m_images, .ref m_hasImage, .ref m_luck, .ref m_tape, .int 0, .ref m_five, .int 0, .int 0, .int 0, .int 0, .int 0, .int 0, .int (-1), .ref m_fresh, .ref m_waits, .int 0, .int 0, .int 0, .ref m_figures, .ref m_pile, .long 0, .ref m_times, .ref m_far, .ref m_queue, .ref m_months, .ref m_ways, .ref m_waysOn, .ref m_many, .ref m_width, .ref m_numbers, .ref m_moving])), (m_ways, .inl (cJ, 201, .inr (.inl f))), (m_waysOn, .inl (cK, 201, .inr (.inl g)))] s.heap := hP
  have hl := lv_entry ([.ref h0, .int a1, .int a2]) (n := 3) (Nat.le_of_ble_eq_true rfl)
  rw [lg_entry_eq]
  generalize (lg_sl ([.ref h0, .int a1, .int a2]) ++ List.replicate (3 - (lg_sl ([.ref h0, .int a1, .int a2])).length) Slot.unset).toArray = ls at hl ⊢
  have hl : lv_has ls 3 [(0, .ref h0), (1, .int a1), (2, .int a2)] := hl
  refine lv_iload_n hx hb dX10_middle_0 rfl (lv_at hl 1 rfl) ?_
  refine lv_iload_n hx hb dX10_middle_1 rfl (lv_at hl 2 rfl) ?_
  refine vp_callSi (W.runS (As := [.int a1, .int a2]) (rest := []) ⟨hx, hb, hml, hown, hts⟩ (kX10_isLong l dC dI a1 a2) (va_cwS 2 hts gX10_middle__X10_isLong_S457 rfl rfl rfl (by decide +kernel) ⟨lel 2 2 rfl, lel 46 46 rfl⟩) ⟨pn_fb, pn_use⟩ rfl rfl hl.1 rfl (lv_room (Nat.le_of_ble_eq_true rfl)) dX10_middle_2 ⟨lel 0 0 rfl, lel 0 0 rfl⟩) (fun r_1 hr_1 => ?_)
  refine lv_if_ne (tgt := 12) hx hb dX10_middle_5 (by decide) (fun c_2 => ?_) (fun c_2 => ?_)
  ·
    have hil : ¬ il a1 a2 = 0 := fun e => c_2 (hr_1.trans e)
    obtain ⟨nn, bb, hn1, hn2, hb2, hb3, rfl, rfl⟩ := il_yes hil
    refine lv_aload_n hx hb dX10_middle_12 rfl (lv_at hl 0 rfl) ?_
    refine lv_iload_n hx hb dX10_middle_13 rfl (lv_at hl 1 rfl) ?_
    refine lv_iconst (v := 0) hx hb dX10_middle_14 (by decide) ?_
    refine lv_iload_n hx hb dX10_middle_15 rfl (lv_at hl 2 rfl) ?_
    refine lv_iconst (v := 1) hx hb dX10_middle_16 (by decide) ?_
    refine lv_isub hx hb dX10_middle_17 ?_
    refine lv_topi (fun z_3 ez_3 => ?_)
    obtain rfl : z_3 = nI (bb - 1) := ez_3.trans (pk_sub (a := bb) (b := 1) (by omega))
    have hFc := va_free (wc := [(h0, .inr (8, [.int 0, .ref m_world, .ref m_images, .ref m_hasImage, .ref m_luck, .ref m_tape, .int 0, .ref m_five, .int 0, .int 0, .int 0, .int 0, .int 0, .int 0, .int (-1), .ref m_fresh, .ref m_waits, .int 0, .int 0, .int 0, .ref m_figures, .ref m_pile, .long 0, .ref m_times, .ref m_far, .ref m_queue, .ref m_months, .ref m_ways, .ref m_waysOn, .ref m_many, .ref m_width, .ref m_numbers, .ref m_moving])), (m_ways, .inl (cJ, 201, .inr (.inl f))), (m_waysOn, .inl (cK, 201, .inr (.inl g)))]) hD hS hA [0, 1, 2] rfl
    refine va_callv (va_runV (As := [.int (nI nn), .int 0, .int (nI (bb - 1))]) (rest := []) ⟨hx, hb, hml, hown, hts⟩ (kX10_fillWays l dC dI h0 m_world m_images m_hasImage m_luck m_tape m_five m_fresh m_waits m_figures m_pile m_times m_far m_queue m_months m_ways m_waysOn m_many m_width m_numbers m_moving cJ cK f g nn 0 (bb - 1) (s.heap.size) (by omega) (by omega) (by omega)) (cwV 3 hts gX10_middle__X10_fillWays_V462 rfl rfl rfl (by decide +kernel) ⟨lel 1 2 rfl, lel 26 46 rfl⟩) ⟨hw_fb, va_recv hK hP (ci := 8) (q0 := 0) rfl rfl, (hw_use hP hD hK hN [0, 1, 2] rfl (by decide) rfl [0, 1] rfl)⟩ rfl rfl hl.1 rfl (lv_room (Nat.le_of_ble_eq_true rfl)) dX10_middle_18 ⟨lel 0 0 rfl, lel 0 0 rfl⟩) hS (fun q _ h => hFc q h) hFc (fun u_5 t H1 locs ht hvm hwr_4 hB hz1 hk1 hS => ?_)
    obtain ⟨f9_6, g9_7, hf_8, hP1, hK1, hD1⟩ := hB
    rw [ht] at hP1
    have hK1 := va_K.moved hvm.symm hK1
    obtain ⟨hP, hD⟩ := va_join (wr := []) (w1 := [(h0, .inr (8, [.int 0, .ref m_world, .ref m_images, .ref m_hasImage, .ref m_luck, .ref m_tape, .int 0, .ref m_five, .int 0, .int 0, .int 0, .int 0, .int 0, .int 0, .int (-1), .ref m_fresh, .ref m_waits, .int 0, .int 0, .int 0, .ref m_figures, .ref m_pile, .long 0, .ref m_times, .ref m_far, .ref m_queue, .ref m_months, .ref m_ways, .ref m_waysOn, .ref m_many, .ref m_width, .ref m_numbers, .ref m_moving])), (m_ways, .inl (cJ, 201, .inr (.inl f9_6))), (m_waysOn, .inl (cK, 201, .inr (.inl g9_7)))]) hP hD [0, 1, 2] [] rfl rfl (by decide) (by decide) hk1 hFc hP1 hD1
    have hK := (hK.sub (tys' := []) [] rfl).app hK1
    generalize H1 = H at hP hS ⊢
    have hP : va_P (dC, dI) vwCl [(h0, .inr (8, [.int 0, .ref m_world, .ref m_images, .ref m_hasImage, .ref m_luck, .ref m_tape, .int 0, .ref m_five, .int 0, .int 0, .int 0, .int 0, .int 0, .int 0, .int (-1), .ref m_fresh, .ref m_waits, .int 0, .int 0, .int 0, .ref m_figures, .ref m_pile, .long 0, .ref m_times, .ref m_far, .ref m_queue, .ref m_months, .ref m_ways, .ref m_waysOn, .ref m_many, .ref m_width, .ref m_numbers, .ref m_moving])), (m_ways, .inl (cJ, 201, .inr (.inl f9_6))), (m_waysOn, .inl (cK, 201, .inr (.inl g9_7)))] H := hP
    have hD : va_D A [(h0, .inr (8, [.int 0, .ref m_world, .ref m_images, .ref m_hasImage, .ref m_luck, .ref m_tape, .int 0, .ref m_five, .int 0, .int 0, .int 0, .int 0, .int 0, .int 0, .int (-1), .ref m_fresh, .ref m_waits, .int 0, .int 0, .int 0, .ref m_figures, .ref m_pile, .long 0, .ref m_times, .ref m_far, .ref m_queue, .ref m_months, .ref m_ways, .ref m_waysOn, .ref m_many, .ref m_width, .ref m_numbers, .ref m_moving])), (m_ways, .inl (cJ, 201, .inr (.inl f9_6))), (m_waysOn, .inl (cK, 201, .inr (.inl g9_7)))] := hD
    have hK : va_K (dC, dI) vwCl [(cJ, .long), (cK, .long)] s := hK
    refine lv_aload_n hx hb dX10_middle_21 rfl (lv_at hl 0 rfl) ?_
    refine va_get (D := (dC, dI)) (ci := 8) (v := .ref m_ways) (C := RX10) (T := TX10) (N := 33) hx hb hts iX10_middle_X10 hown hK hP 0 rfl rfl 27 (by decide) (hts (.fieldLink RX10 58 "LuckyTicketModel" "ways" "[J") (List.mem_of_getElem? (i := 15) rfl)) (fun _ h9 => h9) rfl dX10_middle_22 ?_
    refine lv_iload_n hx hb dX10_middle_25 rfl (lv_at hl 2 rfl) ?_
    refine lv_iconst (v := 1) hx hb dX10_middle_26 (by decide) ?_
    refine lv_isub hx hb dX10_middle_27 ?_
    refine lv_topi (fun z_9 ez_9 => ?_)
    obtain rfl : z_9 = nI (bb - 1) := ez_9.trans (pk_sub (a := bb) (b := 1) (by omega))
    refine lv_iload_n hx hb dX10_middle_28 rfl (lv_at hl 1 rfl) ?_
    refine lv_imul hx hb dX10_middle_29 ?_
    refine lv_topi (fun z_10 ez_10 => ?_)
    obtain rfl : z_10 = nI ((bb - 1) * nn) := ez_10.trans (pk_mul (bb - 1) nn)
    have hml9 := mid_lt hn2 hb3
    have hml8 := mid_le hn2 hb3
    refine lv_iconst (v := 2) hx hb dX10_middle_30 (by decide) ?_
    refine lv_idiv hx hb dX10_middle_31 (by decide) ?_
    refine lv_topi (fun z_11 ez_11 => ?_)
    obtain rfl : z_11 = nI (((bb - 1) * nn) / 2) := ez_11.trans (pk_div (a := (bb - 1) * nn) (d := 2) (by omega) (by omega) (by omega))
    refine va_lald hx hb hK hP 1 0 rfl rfl (vp_in_nI (n := ((bb - 1) * nn) / 2) (by omega) (by decide)) dX10_middle_32 ?_
    refine lv_topl (fun z_12 ez_12 => ?_)
    rw [nI_clamp (n := ((bb - 1) * nn) / 2) (by omega)] at ez_12
    have hP9 := hP.sub (ws' := []) [] rfl
    have hD9 := hD.sub (ws' := []) [] (by decide) rfl
    have hK9 := hK.sub (tys' := []) [] rfl
    exact W.lret (v := z_12) hx hb hr (fun t ht hW => ⟨⟨z_12, (), rfl, md_c hil hn2 hb3 (ez_12.trans (hf_8 _ (by have := mid_le hn2 hb3; omega))), by rw [ht]; exact hP9, va_K.moved hW.alike hK9, hD9⟩, hS.F ht⟩) hS.2.2 dX10_middle_33
  ·
    refine lv_ldc2 (v := (-2)) hx hb hown (hts (.constantLong RX10 416 (-2)) (List.mem_of_getElem? (i := 17) rfl)) dX10_middle_8 ?_
    have hP9 := hP.sub (ws' := []) [] rfl
    have hD9 := hD.sub (ws' := []) [] (by decide) rfl
    have hK9 := hK.sub (tys' := []) [] rfl
    exact W.lret (v := (-2)) hx hb hr (fun t ht hW => ⟨⟨(-2), (), rfl, md_a (hr_1.symm.trans c_2), by rw [ht]; exact hP9, va_K.moved hW.alike hK9, hD9⟩, hS.F ht⟩) hS.2.2 dX10_middle_11
theorem dX10_halves_0 : decode cX10_halves 0 = .ok (.iload_n 1, 1) := by decide +kernel
theorem dX10_halves_1 : decode cX10_halves 1 = .ok (.iload_n 2, 1) := by decide +kernel
theorem dX10_halves_2 : decode cX10_halves 2 = .ok (.invokestatic 457, 3) := by decide +kernel
theorem dX10_halves_5 : decode cX10_halves 5 = .ok (.ifCond .eq 9, 3) := by decide +kernel
theorem dX10_halves_8 : decode cX10_halves 8 = .ok (.iload_n 1, 1) := by decide +kernel
theorem dX10_halves_9 : decode cX10_halves 9 = .ok (.iconst 2, 1) := by decide +kernel
theorem dX10_halves_10 : decode cX10_halves 10 = .ok (.irem, 1) := by decide +kernel
theorem dX10_halves_11 : decode cX10_halves 11 = .ok (.ifCond .eq 7, 3) := by decide +kernel
theorem dX10_halves_14 : decode cX10_halves 14 = .ok (.ldc2_w 416, 3) := by decide +kernel
theorem dX10_halves_17 : decode cX10_halves 17 = .ok (.lreturn, 1) := by decide +kernel
theorem dX10_halves_18 : decode cX10_halves 18 = .ok (.aload_n 0, 1) := by decide +kernel
theorem dX10_halves_19 : decode cX10_halves 19 = .ok (.iload_n 1, 1) := by decide +kernel
theorem dX10_halves_20 : decode cX10_halves 20 = .ok (.iconst 2, 1) := by decide +kernel
theorem dX10_halves_21 : decode cX10_halves 21 = .ok (.idiv, 1) := by decide +kernel
theorem dX10_halves_22 : decode cX10_halves 22 = .ok (.iconst 0, 1) := by decide +kernel
theorem dX10_halves_23 : decode cX10_halves 23 = .ok (.iload_n 2, 1) := by decide +kernel
theorem dX10_halves_24 : decode cX10_halves 24 = .ok (.iconst 1, 1) := by decide +kernel
theorem dX10_halves_25 : decode cX10_halves 25 = .ok (.isub, 1) := by decide +kernel
theorem dX10_halves_26 : decode cX10_halves 26 = .ok (.invokevirtual 462, 3) := by decide +kernel
theorem dX10_halves_29 : decode cX10_halves 29 = .ok (.lconst 0, 1) := by decide +kernel
theorem dX10_halves_30 : decode cX10_halves 30 = .ok (.lstore_n 3, 1) := by decide +kernel
theorem dX10_halves_31 : decode cX10_halves 31 = .ok (.iconst 0, 1) := by decide +kernel
theorem dX10_halves_32 : decode cX10_halves 32 = .ok (.istore 5, 2) := by decide +kernel
theorem dX10_halves_34 : decode cX10_halves 34 = .ok (.iload 5, 2) := by decide +kernel
theorem dX10_halves_36 : decode cX10_halves 36 = .ok (.sipush 201, 3) := by decide +kernel
theorem dX10_halves_39 : decode cX10_halves 39 = .ok (.if_icmp .ge 27, 3) := by decide +kernel
theorem dX10_halves_42 : decode cX10_halves 42 = .ok (.lload_n 3, 1) := by decide +kernel
theorem dX10_halves_43 : decode cX10_halves 43 = .ok (.aload_n 0, 1) := by decide +kernel
theorem dX10_halves_44 : decode cX10_halves 44 = .ok (.getfield 58, 3) := by decide +kernel
theorem dX10_halves_47 : decode cX10_halves 47 = .ok (.iload 5, 2) := by decide +kernel
theorem dX10_halves_49 : decode cX10_halves 49 = .ok (.laload, 1) := by decide +kernel
theorem dX10_halves_50 : decode cX10_halves 50 = .ok (.aload_n 0, 1) := by decide +kernel
theorem dX10_halves_51 : decode cX10_halves 51 = .ok (.getfield 58, 3) := by decide +kernel
theorem dX10_halves_54 : decode cX10_halves 54 = .ok (.iload 5, 2) := by decide +kernel
theorem dX10_halves_56 : decode cX10_halves 56 = .ok (.laload, 1) := by decide +kernel
theorem dX10_halves_57 : decode cX10_halves 57 = .ok (.lmul, 1) := by decide +kernel
theorem dX10_halves_58 : decode cX10_halves 58 = .ok (.ladd, 1) := by decide +kernel
theorem dX10_halves_59 : decode cX10_halves 59 = .ok (.lstore_n 3, 1) := by decide +kernel
theorem dX10_halves_60 : decode cX10_halves 60 = .ok (.iinc 5 1, 3) := by decide +kernel
theorem dX10_halves_63 : decode cX10_halves 63 = .ok (.goto (-29), 3) := by decide +kernel
theorem dX10_halves_66 : decode cX10_halves 66 = .ok (.lload_n 3, 1) := by decide +kernel
theorem dX10_halves_67 : decode cX10_halves 67 = .ok (.lreturn, 1) := by decide +kernel
def uX10_halves : List Cond := .code yX10_halves cX10_halves 6 (some .long) :: ([.methodLink RX10 457 yX10_isLong, .static yX10_isLong, .initialized RX10, .code yX10_isLong cX10_isLong 2 (some .boolean), .constantLong RX10 453 (12), .methodLink RX10 82 yX10_in, .static yX10_in, .code yX10_in cX10_in 6 (some .boolean), .constantLong RX10 80 (2), .constantLong RX10 455 (16), .constantLong RX10 416 (-2), .methodLink RX10 462 yX10_fillWays, .instanceMethod yX10_fillWays, .selects RX10 yX10_fillWays yX10_fillWays, .code yX10_fillWays cX10_fillWays 7 none, .fieldLink RX10 58 "LuckyTicketModel" "ways" "[J", .fieldLink RX10 62 "LuckyTicketModel" "waysOn" "[J"] ++ wsX100)
theorem iX10_halves_X10 : ∀ w ∈ wsX100, w ∈ uX10_halves := fun _ h => List.mem_cons_of_mem _ (List.mem_append_right _ h)
set_option maxRecDepth 20000 in
theorem gX10_halves__X10_isLong_S457 : GoodIn uX10_halves (va_wsS RX10 457 yX10_isLong uX10_isLong) := goodIn_p _ [4, 8] rfl (by decide +kernel)
set_option maxRecDepth 20000 in
theorem gX10_halves__X10_fillWays_V462 : GoodIn uX10_halves (wsV RX10 462 RX10 yX10_fillWays uX10_fillWays) := goodIn_p _ [15] rfl (by decide +kernel)
set_option maxHeartbeats 4000000 in
set_option maxRecDepth 100000 in
theorem kX10_halves (l : Launch) (dC : Nat → ClassId) (dI : Nat → Nat → Nat) (h0 : Nat) (m_world : Nat) (m_images : Nat) (m_hasImage : Nat) (m_luck : Nat) (m_tape : Nat) (m_five : Nat) (m_fresh : Nat) (m_waits : Nat) (m_figures : Nat) (m_pile : Nat) (m_times : Nat) (m_far : Nat) (m_queue : Nat) (m_months : Nat) (m_ways : Nat) (m_waysOn : Nat) (m_many : Nat) (m_width : Nat) (m_numbers : Nat) (m_moving : Nat) (cJ : ClassId) (cK : ClassId) (f : Nat → Int64) (g : Nat → Int64) (a1 : Int32) (a2 : Int32) (sz : Nat) : Met l yX10_halves uX10_halves ({ frames := 2, cells := 0, slots := 0, locals := 46 }) (va_Pc [.ref h0, .int a1, .int a2] (hw (dC, dI) vwCl [(h0, .inr (8, [.int 0, .ref m_world, .ref m_images, .ref m_hasImage, .ref m_luck, .ref m_tape, .int 0, .ref m_five, .int 0, .int 0, .int 0, .int 0, .int 0, .int 0, .int (-1), .ref m_fresh, .ref m_waits, .int 0, .int 0, .int 0, .ref m_figures, .ref m_pile, .long 0, .ref m_times, .ref m_far, .ref m_queue, .ref m_months, .ref m_ways, .ref m_waysOn, .ref m_many, .ref m_width, .ref m_numbers, .ref m_moving])), (m_ways, .inl (cJ, 201, .inr (.inl f))), (m_waysOn, .inl (cK, 201, .inr (.inl g)))] [(cJ, .long), (cK, .long)] sz)) (va_Ql (fun (r : Int64) (_ : Unit) => r = hvv a1 a2) (fun (_ : Unit) t => va_P (dC, dI) vwCl [] t.heap ∧ va_K (dC, dI) vwCl [] t ∧ va_D (va_A [(h0, .inr (8, [.int 0, .ref m_world, .ref m_images, .ref m_hasImage, .ref m_luck, .ref m_tape, .int 0, .ref m_five, .int 0, .int 0, .int 0, .int 0, .int 0, .int 0, .int (-1), .ref m_fresh, .ref m_waits, .int 0, .int 0, .int 0, .ref m_figures, .ref m_pile, .long 0, .ref m_times, .ref m_far, .ref m_queue, .ref m_months, .ref m_ways, .ref m_waysOn, .ref m_many, .ref m_width, .ref m_numbers, .ref m_moving])), (m_ways, .inl (cJ, 201, .inr (.inl f))), (m_waysOn, .inl (cK, 201, .inr (.inl g)))] sz) []) (va_A [(h0, .inr (8, [.int 0, .ref m_world, .ref m_images, .ref m_hasImage, .ref m_luck, .ref m_tape, .int 0, .ref m_five, .int 0, .int 0, .int 0, .int 0, .int 0, .int 0, .int (-1), .ref m_fresh, .ref m_waits, .int 0, .int 0, .int 0, .ref m_figures, .ref m_pile, .long 0, .ref m_times, .ref m_far, .ref m_queue, .ref m_months, .ref m_ways, .ref m_waysOn, .ref m_many, .ref m_width, .ref m_numbers, .ref m_moving])), (m_ways, .inl (cJ, 201, .inr (.inl f))), (m_waysOn, .inl (cK, 201, .inr (.inl g)))] sz)) 0 0 (va_A [(h0, .inr (8, [.int 0, .ref m_world, .ref m_images, .ref m_hasImage, .ref m_luck, .ref m_tape, .int 0, .ref m_five, .int 0, .int 0, .int 0, .int 0, .int 0, .int 0, .int (-1), .ref m_fresh, .ref m_waits, .int 0, .int 0, .int 0, .ref m_figures, .ref m_pile, .long 0, .ref m_times, .ref m_far, .ref m_queue, .ref m_months, .ref m_ways, .ref m_waysOn, .ref m_many, .ref m_width, .ref m_numbers, .ref m_moving])), (m_ways, .inl (cJ, 201, .inr (.inl f))), (m_waysOn, .inl (cK, 201, .inr (.inl g)))] sz) := by
  refine Met.ofW (cc := cX10_halves) (maxL := 6) (ret := (some .long)) (by decide) rfl ?_
  intro p e s m args below meth c s₁ B hml hv
  obtain ⟨rfl, hsz, hP, hK, hD0, hN⟩ := hv
  have hx := B.exec
  have hb := B.bytes
  have hr := B.returns
  have hts := atoms_spec (ws := uX10_halves) B.pre
  have hown : s.vm.findClass RX10 = some m.cls := findClass_of_methodNamed B.named
  have hlocks := B.notSynchronized
  subst hsz
  have hD := hD0.self (sz := s.heap.size)
  generalize hAe : va_A [(h0, .inr (8, [.int 0, .ref m_world, .ref m_images, .ref m_hasImage, .ref m_luck, .ref m_tape, .int 0, .ref m_five, .int 0, .int 0, .int 0, .int 0, .int 0, .int 0, .int (-1), .ref m_fresh, .ref m_waits, .int 0, .int 0, .int 0, .ref m_figures, .ref m_pile, .long 0, .ref m_times, .ref m_far, .ref m_queue, .ref m_months, .ref m_ways, .ref m_waysOn, .ref m_many, .ref m_width, .ref m_numbers, .ref m_moving])), (m_ways, .inl (cJ, 201, .inr (.inl f))), (m_waysOn, .inl (cK, 201, .inr (.inl g)))] s.heap.size = A at hD ⊢
  have hA : ∀ q : Nat, s.heap.size ≤ q → A q := fun q h => by rw [← hAe]; exact Or.inr h
  have hS : va_S A s.heap s.heap [] := va_S.rf
  have hP : va_P (dC, dI) vwCl [(h0, .inr (8, [.int 0, .ref m_world, .ref m_images, .ref m_hasImage, .ref m_luck, .ref m_tape, .int 0, .ref m_five, .int 0, .int 0, .int 0, .int 0, .int 0, .int 0, .int (-1), .ref m_fresh, .ref m_waits, .int 0, .int 0, .int 0, .ref m_figures, .ref m_pile, .long 0, .ref m_times, .ref m_far, .ref m_queue, .ref m_months, .ref m_ways, .ref m_waysOn, .ref m_many, .ref m_width, .ref m_numbers, .ref m_moving])), (m_ways, .inl (cJ, 201, .inr (.inl f))), (m_waysOn, .inl (cK, 201, .inr (.inl g)))] s.heap := hP
  have hl := lv_entry ([.ref h0, .int a1, .int a2]) (n := 6) (Nat.le_of_ble_eq_true rfl)
  rw [lg_entry_eq]
  generalize (lg_sl ([.ref h0, .int a1, .int a2]) ++ List.replicate (6 - (lg_sl ([.ref h0, .int a1, .int a2])).length) Slot.unset).toArray = ls at hl ⊢
  have hl : lv_has ls 6 [(0, .ref h0), (1, .int a1), (2, .int a2)] := hl
  refine lv_iload_n hx hb dX10_halves_0 rfl (lv_at hl 1 rfl) ?_
  refine lv_iload_n hx hb dX10_halves_1 rfl (lv_at hl 2 rfl) ?_
  refine vp_callSi (W.runS (As := [.int a1, .int a2]) (rest := []) ⟨hx, hb, hml, hown, hts⟩ (kX10_isLong l dC dI a1 a2) (va_cwS 2 hts gX10_halves__X10_isLong_S457 rfl rfl rfl (by decide +kernel) ⟨lel 2 2 rfl, lel 46 46 rfl⟩) ⟨pn_fb, pn_use⟩ rfl rfl hl.1 rfl (lv_room (Nat.le_of_ble_eq_true rfl)) dX10_halves_2 ⟨lel 0 0 rfl, lel 0 0 rfl⟩) (fun r_1 hr_1 => ?_)
  refine lv_if_eq (tgt := 14) hx hb dX10_halves_5 (by decide) (fun c_2 => ?_) (fun c_2 => ?_)
  ·
    refine lv_ldc2 (v := (-2)) hx hb hown (hts (.constantLong RX10 416 (-2)) (List.mem_of_getElem? (i := 11) rfl)) dX10_halves_14 ?_
    have hP9 := hP.sub (ws' := []) [] rfl
    have hD9 := hD.sub (ws' := []) [] (by decide) rfl
    have hK9 := hK.sub (tys' := []) [] rfl
    exact W.lret (v := (-2)) hx hb hr (fun t ht hW => ⟨⟨(-2), (), rfl, hv_a (hr_1.symm.trans c_2), by rw [ht]; exact hP9, va_K.moved hW.alike hK9, hD9⟩, hS.F ht⟩) hS.2.2 dX10_halves_17
  ·
    have hil : ¬ il a1 a2 = 0 := fun e => c_2 (hr_1.trans e)
    obtain ⟨nn, bb, hn1, hn2, hb2, hb3, rfl, rfl⟩ := il_yes hil
    refine lv_iload_n hx hb dX10_halves_8 rfl (lv_at hl 1 rfl) ?_
    refine lv_iconst (v := 2) hx hb dX10_halves_9 (by decide) ?_
    refine lv_irem hx hb dX10_halves_10 (by decide) ?_
    refine lv_topi (fun z_3 ez_3 => ?_)
    obtain rfl : z_3 = nI (nn % 2) := ez_3.trans (pk_rem (a := nn) (d := 2) (by omega) (by omega) (by omega))
    refine lv_if_eq (tgt := 18) hx hb dX10_halves_11 (by decide) (fun c_4 => ?_) (fun c_4 => ?_)
    ·
      have nc_4 : nn % 2 = 0 := (nI_eq (a := nn % 2) (b := 0) (by omega) (by omega)).mp c_4
      refine lv_aload_n hx hb dX10_halves_18 rfl (lv_at hl 0 rfl) ?_
      refine lv_iload_n hx hb dX10_halves_19 rfl (lv_at hl 1 rfl) ?_
      refine lv_iconst (v := 2) hx hb dX10_halves_20 (by decide) ?_
      refine lv_idiv hx hb dX10_halves_21 (by decide) ?_
      refine lv_topi (fun z_5 ez_5 => ?_)
      obtain rfl : z_5 = nI (nn / 2) := ez_5.trans (pk_div (a := nn) (d := 2) (by omega) (by omega) (by omega))
      refine lv_iconst (v := 0) hx hb dX10_halves_22 (by decide) ?_
      refine lv_iload_n hx hb dX10_halves_23 rfl (lv_at hl 2 rfl) ?_
      refine lv_iconst (v := 1) hx hb dX10_halves_24 (by decide) ?_
      refine lv_isub hx hb dX10_halves_25 ?_
      refine lv_topi (fun z_6 ez_6 => ?_)
      obtain rfl : z_6 = nI (bb - 1) := ez_6.trans (pk_sub (a := bb) (b := 1) (by omega))
      have hFc := va_free (wc := [(h0, .inr (8, [.int 0, .ref m_world, .ref m_images, .ref m_hasImage, .ref m_luck, .ref m_tape, .int 0, .ref m_five, .int 0, .int 0, .int 0, .int 0, .int 0, .int 0, .int (-1), .ref m_fresh, .ref m_waits, .int 0, .int 0, .int 0, .ref m_figures, .ref m_pile, .long 0, .ref m_times, .ref m_far, .ref m_queue, .ref m_months, .ref m_ways, .ref m_waysOn, .ref m_many, .ref m_width, .ref m_numbers, .ref m_moving])), (m_ways, .inl (cJ, 201, .inr (.inl f))), (m_waysOn, .inl (cK, 201, .inr (.inl g)))]) hD hS hA [0, 1, 2] rfl
      refine va_callv (va_runV (As := [.int (nI (nn / 2)), .int 0, .int (nI (bb - 1))]) (rest := []) ⟨hx, hb, hml, hown, hts⟩ (kX10_fillWays l dC dI h0 m_world m_images m_hasImage m_luck m_tape m_five m_fresh m_waits m_figures m_pile m_times m_far m_queue m_months m_ways m_waysOn m_many m_width m_numbers m_moving cJ cK f g (nn / 2) 0 (bb - 1) (s.heap.size) (by omega) (by omega) (by omega)) (cwV 3 hts gX10_halves__X10_fillWays_V462 rfl rfl rfl (by decide +kernel) ⟨lel 1 2 rfl, lel 26 46 rfl⟩) ⟨hw_fb, va_recv hK hP (ci := 8) (q0 := 0) rfl rfl, (hw_use hP hD hK hN [0, 1, 2] rfl (by decide) rfl [0, 1] rfl)⟩ rfl rfl hl.1 rfl (lv_room (Nat.le_of_ble_eq_true rfl)) dX10_halves_26 ⟨lel 0 0 rfl, lel 0 0 rfl⟩) hS (fun q _ h => hFc q h) hFc (fun u_8 t H1 locs ht hvm hwr_7 hB hz1 hk1 hS => ?_)
      obtain ⟨f9_9, g9_10, hf_11, hP1, hK1, hD1⟩ := hB
      rw [ht] at hP1
      have hK1 := va_K.moved hvm.symm hK1
      obtain ⟨hP, hD⟩ := va_join (wr := []) (w1 := [(h0, .inr (8, [.int 0, .ref m_world, .ref m_images, .ref m_hasImage, .ref m_luck, .ref m_tape, .int 0, .ref m_five, .int 0, .int 0, .int 0, .int 0, .int 0, .int 0, .int (-1), .ref m_fresh, .ref m_waits, .int 0, .int 0, .int 0, .ref m_figures, .ref m_pile, .long 0, .ref m_times, .ref m_far, .ref m_queue, .ref m_months, .ref m_ways, .ref m_waysOn, .ref m_many, .ref m_width, .ref m_numbers, .ref m_moving])), (m_ways, .inl (cJ, 201, .inr (.inl f9_9))), (m_waysOn, .inl (cK, 201, .inr (.inl g9_10)))]) hP hD [0, 1, 2] [] rfl rfl (by decide) (by decide) hk1 hFc hP1 hD1
      have hK := (hK.sub (tys' := []) [] rfl).app hK1
      generalize H1 = H at hP hS ⊢
      have hP : va_P (dC, dI) vwCl [(h0, .inr (8, [.int 0, .ref m_world, .ref m_images, .ref m_hasImage, .ref m_luck, .ref m_tape, .int 0, .ref m_five, .int 0, .int 0, .int 0, .int 0, .int 0, .int 0, .int (-1), .ref m_fresh, .ref m_waits, .int 0, .int 0, .int 0, .ref m_figures, .ref m_pile, .long 0, .ref m_times, .ref m_far, .ref m_queue, .ref m_months, .ref m_ways, .ref m_waysOn, .ref m_many, .ref m_width, .ref m_numbers, .ref m_moving])), (m_ways, .inl (cJ, 201, .inr (.inl f9_9))), (m_waysOn, .inl (cK, 201, .inr (.inl g9_10)))] H := hP
      have hD : va_D A [(h0, .inr (8, [.int 0, .ref m_world, .ref m_images, .ref m_hasImage, .ref m_luck, .ref m_tape, .int 0, .ref m_five, .int 0, .int 0, .int 0, .int 0, .int 0, .int 0, .int (-1), .ref m_fresh, .ref m_waits, .int 0, .int 0, .int 0, .ref m_figures, .ref m_pile, .long 0, .ref m_times, .ref m_far, .ref m_queue, .ref m_months, .ref m_ways, .ref m_waysOn, .ref m_many, .ref m_width, .ref m_numbers, .ref m_moving])), (m_ways, .inl (cJ, 201, .inr (.inl f9_9))), (m_waysOn, .inl (cK, 201, .inr (.inl g9_10)))] := hD
      have hK : va_K (dC, dI) vwCl [(cJ, .long), (cK, .long)] s := hK
      refine lv_lconst (v := 0) hx hb dX10_halves_29 (by decide) ?_
      refine lv_lstore_n (lv' := [(3, .long 0), (0, .ref h0), (1, .int (nI nn)), (2, .int (nI bb))]) hx hb dX10_halves_30 rfl hl (by decide) rfl (fun ls hl => ?_)
      refine lv_iconst (v := 0) hx hb dX10_halves_31 (by decide) ?_
      refine lv_istore (lv' := [(5, .int 0), (3, .long 0), (0, .ref h0), (1, .int (nI nn)), (2, .int (nI bb))]) hx hb dX10_halves_32 hl (by decide) rfl (fun ls hl => ?_)
      refine loopW (σ := Nat) (fun v => 202 - v) (fun v H locs ls => (v ≤ 201) ∧ va_P (dC, dI) vwCl [(h0, .inr (8, [.int 0, .ref m_world, .ref m_images, .ref m_hasImage, .ref m_luck, .ref m_tape, .int 0, .ref m_five, .int 0, .int 0, .int 0, .int 0, .int 0, .int 0, .int (-1), .ref m_fresh, .ref m_waits, .int 0, .int 0, .int 0, .ref m_figures, .ref m_pile, .long 0, .ref m_times, .ref m_far, .ref m_queue, .ref m_months, .ref m_ways, .ref m_waysOn, .ref m_many, .ref m_width, .ref m_numbers, .ref m_moving])), (m_ways, .inl (cJ, 201, .inr (.inl f9_9))), (m_waysOn, .inl (cK, 201, .inr (.inl g9_10)))] H ∧ va_D A [(h0, .inr (8, [.int 0, .ref m_world, .ref m_images, .ref m_hasImage, .ref m_luck, .ref m_tape, .int 0, .ref m_five, .int 0, .int 0, .int 0, .int 0, .int 0, .int 0, .int (-1), .ref m_fresh, .ref m_waits, .int 0, .int 0, .int 0, .ref m_figures, .ref m_pile, .long 0, .ref m_times, .ref m_far, .ref m_queue, .ref m_months, .ref m_ways, .ref m_waysOn, .ref m_many, .ref m_width, .ref m_numbers, .ref m_moving])), (m_ways, .inl (cJ, 201, .inr (.inl f9_9))), (m_waysOn, .inl (cK, 201, .inr (.inl g9_10)))] ∧ va_S A s.heap H locs ∧ lv_has ls 6 [(5, .int (nI v)), (3, .long (hs (TT 0 (bb - 1) (nn / 2)) v)), (0, .ref h0), (1, .int (nI nn)), (2, .int (nI bb))]) (fun v H locs ls hI ih_34 => ?_) 0 ⟨(show 0 ≤ 201 from Nat.zero_le _), hP, hD, hS, hl⟩
      obtain ⟨i, rfl⟩ : ∃ z, z = v := ⟨_, rfl⟩
      obtain ⟨hi, hP, hD, hS, hl⟩ := hI
      have hi : i ≤ 201 := hi
      have hP : va_P (dC, dI) vwCl [(h0, .inr (8, [.int 0, .ref m_world, .ref m_images, .ref m_hasImage, .ref m_luck, .ref m_tape, .int 0, .ref m_five, .int 0, .int 0, .int 0, .int 0, .int 0, .int 0, .int (-1), .ref m_fresh, .ref m_waits, .int 0, .int 0, .int 0, .ref m_figures, .ref m_pile, .long 0, .ref m_times, .ref m_far, .ref m_queue, .ref m_months, .ref m_ways, .ref m_waysOn, .ref m_many, .ref m_width, .ref m_numbers, .ref m_moving])), (m_ways, .inl (cJ, 201, .inr (.inl f9_9))), (m_waysOn, .inl (cK, 201, .inr (.inl g9_10)))] H := hP
      have hD : va_D A [(h0, .inr (8, [.int 0, .ref m_world, .ref m_images, .ref m_hasImage, .ref m_luck, .ref m_tape, .int 0, .ref m_five, .int 0, .int 0, .int 0, .int 0, .int 0, .int 0, .int (-1), .ref m_fresh, .ref m_waits, .int 0, .int 0, .int 0, .ref m_figures, .ref m_pile, .long 0, .ref m_times, .ref m_far, .ref m_queue, .ref m_months, .ref m_ways, .ref m_waysOn, .ref m_many, .ref m_width, .ref m_numbers, .ref m_moving])), (m_ways, .inl (cJ, 201, .inr (.inl f9_9))), (m_waysOn, .inl (cK, 201, .inr (.inl g9_10)))] := hD
      have hl : lv_has ls 6 [(5, .int (nI i)), (3, .long (hs (TT 0 (bb - 1) (nn / 2)) i)), (0, .ref h0), (1, .int (nI nn)), (2, .int (nI bb))] := hl
      refine lv_iload hx hb dX10_halves_34 (lv_at hl 0 rfl) ?_
      refine lv_sipush (v := 201) hx hb dX10_halves_36 (by decide) ?_
      refine lv_icmp_ge (tgt := 66) hx hb dX10_halves_39 (by decide) (fun c_12 => ?_) (fun c_12 => ?_)
      ·
        have nc_12 : 201 ≤ i := (nI_leI (a := 201) (b := i) (by omega) (by omega)).mp c_12
        refine lv_lload_n hx hb dX10_halves_66 rfl (lv_at hl 1 rfl) ?_
        have hP9 := hP.sub (ws' := []) [] rfl
        have hD9 := hD.sub (ws' := []) [] (by decide) rfl
        have hK9 := hK.sub (tys' := []) [] rfl
        exact W.lret (v := (hs (TT 0 (bb - 1) (nn / 2)) i)) hx hb hr (fun t ht hW => ⟨⟨(hs (TT 0 (bb - 1) (nn / 2)) i), (), rfl, hv_c hil hn2 hb3 (by omega) (by rw [show i = 181 + 20 by omega]; exact hs_out 20 (fun s9 h9 => TT_out _ _ _ (hv_z hn2 hb3 h9))), by rw [ht]; exact hP9, va_K.moved hW.alike hK9, hD9⟩, hS.F ht⟩) hS.2.2 dX10_halves_67
      ·
        have nc_12 : ¬ 201 ≤ i := fun q9 => c_12 ((nI_leI (a := 201) (b := i) (by omega) (by omega)).mpr q9)
        refine lv_lload_n hx hb dX10_halves_42 rfl (lv_at hl 1 rfl) ?_
        refine lv_aload_n hx hb dX10_halves_43 rfl (lv_at hl 2 rfl) ?_
        refine va_get (D := (dC, dI)) (ci := 8) (v := .ref m_ways) (C := RX10) (T := TX10) (N := 33) hx hb hts iX10_halves_X10 hown hK hP 0 rfl rfl 27 (by decide) (hts (.fieldLink RX10 58 "LuckyTicketModel" "ways" "[J") (List.mem_of_getElem? (i := 16) rfl)) (fun _ h9 => h9) rfl dX10_halves_44 ?_
        refine lv_iload hx hb dX10_halves_47 (lv_at hl 0 rfl) ?_
        refine va_lald hx hb hK hP 1 0 rfl rfl (vp_in_nI (n := i) (by omega) (by decide)) dX10_halves_49 ?_
        refine lv_topl (fun z_13 ez_13 => ?_)
        rw [nI_clamp (n := i) (by omega)] at ez_13
        refine lv_aload_n hx hb dX10_halves_50 rfl (lv_at hl 2 rfl) ?_
        refine va_get (D := (dC, dI)) (ci := 8) (v := .ref m_ways) (C := RX10) (T := TX10) (N := 33) hx hb hts iX10_halves_X10 hown hK hP 0 rfl rfl 27 (by decide) (hts (.fieldLink RX10 58 "LuckyTicketModel" "ways" "[J") (List.mem_of_getElem? (i := 16) rfl)) (fun _ h9 => h9) rfl dX10_halves_51 ?_
        refine lv_iload hx hb dX10_halves_54 (lv_at hl 0 rfl) ?_
        refine va_lald hx hb hK hP 1 0 rfl rfl (vp_in_nI (n := i) (by omega) (by decide)) dX10_halves_56 ?_
        refine lv_topl (fun z_14 ez_14 => ?_)
        rw [nI_clamp (n := i) (by omega)] at ez_14
        refine lv_lmul hx hb dX10_halves_57 ?_
        refine lv_topl (fun z_15 ez_15 => ?_)
        refine lv_ladd hx hb dX10_halves_58 ?_
        refine lv_topl (fun z_16 ez_16 => ?_)
        refine lv_lstore_n (lv' := [(3, .long z_16), (5, .int (nI i)), (0, .ref h0), (1, .int (nI nn)), (2, .int (nI bb))]) hx hb dX10_halves_59 rfl hl (by decide) rfl (fun ls hl => ?_)
        obtain ⟨z_17, ez_17⟩ : ∃ y : Int32, y = nI i + 1 := ⟨_, rfl⟩
        refine lv_iinc (v := z_17) (lv' := [(5, .int z_17), (3, .long z_16), (0, .ref h0), (1, .int (nI nn)), (2, .int (nI bb))]) hx hb dX10_halves_60 hl (k := 1) rfl (by rw [ez_17]; rfl) (by decide) rfl (fun ls hl => ?_)
        obtain rfl : z_17 = nI (i + 1) := ez_17.trans (nI_add i 1)
        refine lv_goto (tgt := 34) hx hb dX10_halves_63 (by decide) ?_
        have hl : lv_has ls 6 [(5, .int (nI (i + 1))), (3, .long (hs (TT 0 (bb - 1) (nn / 2)) (i + 1))), (0, .ref h0), (1, .int (nI nn)), (2, .int (nI bb))] := by rw [show hs (TT 0 (bb - 1) (nn / 2)) (i + 1) = z_16 from by rw [ez_16, ez_15, ez_14, ez_13, hf_11 i (by omega)]; rfl]; exact hl
        exact ih_34 (i + 1) _ _ _ ⟨(show (i + 1) ≤ 201 from (by omega)), hP, hD, hS, lv_sub hl [0, 1, 2, 3, 4] rfl⟩ (show 202 - (i + 1) < 202 - i by omega)
    ·
      have nc_4 : ¬ (nn % 2 = 0) := fun q9 => c_4 ((nI_eq (a := nn % 2) (b := 0) (by omega) (by omega)).mpr q9)
      refine lv_ldc2 (v := (-2)) hx hb hown (hts (.constantLong RX10 416 (-2)) (List.mem_of_getElem? (i := 11) rfl)) dX10_halves_14 ?_
      have hP9 := hP.sub (ws' := []) [] rfl
      have hD9 := hD.sub (ws' := []) [] (by decide) rfl
      have hK9 := hK.sub (tys' := []) [] rfl
      exact W.lret (v := (-2)) hx hb hr (fun t ht hW => ⟨⟨(-2), (), rfl, hv_b hn2 (fun q => c_4 (by rw [q]; rfl)), by rw [ht]; exact hP9, va_K.moved hW.alike hK9, hD9⟩, hS.F ht⟩) hS.2.2 dX10_halves_17
theorem dX10_most_0 : decode cX10_most 0 = .ok (.iload_n 1, 1) := by decide +kernel
theorem dX10_most_1 : decode cX10_most 1 = .ok (.iload_n 2, 1) := by decide +kernel
theorem dX10_most_2 : decode cX10_most 2 = .ok (.invokestatic 457, 3) := by decide +kernel
theorem dX10_most_5 : decode cX10_most 5 = .ok (.ifCond .ne 6, 3) := by decide +kernel
theorem dX10_most_8 : decode cX10_most 8 = .ok (.bipush (-2), 2) := by decide +kernel
theorem dX10_most_10 : decode cX10_most 10 = .ok (.ireturn, 1) := by decide +kernel
theorem dX10_most_11 : decode cX10_most 11 = .ok (.aload_n 0, 1) := by decide +kernel
theorem dX10_most_12 : decode cX10_most 12 = .ok (.iload_n 1, 1) := by decide +kernel
theorem dX10_most_13 : decode cX10_most 13 = .ok (.iconst 0, 1) := by decide +kernel
theorem dX10_most_14 : decode cX10_most 14 = .ok (.iload_n 2, 1) := by decide +kernel
theorem dX10_most_15 : decode cX10_most 15 = .ok (.iconst 1, 1) := by decide +kernel
theorem dX10_most_16 : decode cX10_most 16 = .ok (.isub, 1) := by decide +kernel
theorem dX10_most_17 : decode cX10_most 17 = .ok (.invokevirtual 462, 3) := by decide +kernel
theorem dX10_most_20 : decode cX10_most 20 = .ok (.iconst 0, 1) := by decide +kernel
theorem dX10_most_21 : decode cX10_most 21 = .ok (.istore_n 3, 1) := by decide +kernel
theorem dX10_most_22 : decode cX10_most 22 = .ok (.iconst 1, 1) := by decide +kernel
theorem dX10_most_23 : decode cX10_most 23 = .ok (.istore 4, 2) := by decide +kernel
theorem dX10_most_25 : decode cX10_most 25 = .ok (.iload 4, 2) := by decide +kernel
theorem dX10_most_27 : decode cX10_most 27 = .ok (.sipush 201, 3) := by decide +kernel
theorem dX10_most_30 : decode cX10_most 30 = .ok (.if_icmp .ge 33, 3) := by decide +kernel
theorem dX10_most_33 : decode cX10_most 33 = .ok (.aload_n 0, 1) := by decide +kernel
theorem dX10_most_34 : decode cX10_most 34 = .ok (.getfield 58, 3) := by decide +kernel
theorem dX10_most_37 : decode cX10_most 37 = .ok (.iload 4, 2) := by decide +kernel
theorem dX10_most_39 : decode cX10_most 39 = .ok (.laload, 1) := by decide +kernel
theorem dX10_most_40 : decode cX10_most 40 = .ok (.aload_n 0, 1) := by decide +kernel
theorem dX10_most_41 : decode cX10_most 41 = .ok (.getfield 58, 3) := by decide +kernel
theorem dX10_most_44 : decode cX10_most 44 = .ok (.iload_n 3, 1) := by decide +kernel
theorem dX10_most_45 : decode cX10_most 45 = .ok (.laload, 1) := by decide +kernel
theorem dX10_most_46 : decode cX10_most 46 = .ok (.lcmp, 1) := by decide +kernel
theorem dX10_most_47 : decode cX10_most 47 = .ok (.ifCond .le 8, 3) := by decide +kernel
theorem dX10_most_50 : decode cX10_most 50 = .ok (.iload 4, 2) := by decide +kernel
theorem dX10_most_52 : decode cX10_most 52 = .ok (.goto 4, 3) := by decide +kernel
theorem dX10_most_55 : decode cX10_most 55 = .ok (.iload_n 3, 1) := by decide +kernel
theorem dX10_most_56 : decode cX10_most 56 = .ok (.istore_n 3, 1) := by decide +kernel
theorem dX10_most_57 : decode cX10_most 57 = .ok (.iinc 4 1, 3) := by decide +kernel
theorem dX10_most_60 : decode cX10_most 60 = .ok (.goto (-35), 3) := by decide +kernel
theorem dX10_most_63 : decode cX10_most 63 = .ok (.iload_n 3, 1) := by decide +kernel
theorem dX10_most_64 : decode cX10_most 64 = .ok (.ireturn, 1) := by decide +kernel
def uX10_most : List Cond := .code yX10_most cX10_most 5 (some .int) :: ([.methodLink RX10 457 yX10_isLong, .static yX10_isLong, .initialized RX10, .code yX10_isLong cX10_isLong 2 (some .boolean), .constantLong RX10 453 (12), .methodLink RX10 82 yX10_in, .static yX10_in, .code yX10_in cX10_in 6 (some .boolean), .constantLong RX10 80 (2), .constantLong RX10 455 (16), .methodLink RX10 462 yX10_fillWays, .instanceMethod yX10_fillWays, .selects RX10 yX10_fillWays yX10_fillWays, .code yX10_fillWays cX10_fillWays 7 none, .fieldLink RX10 58 "LuckyTicketModel" "ways" "[J", .fieldLink RX10 62 "LuckyTicketModel" "waysOn" "[J"] ++ wsX100)
theorem iX10_most_X10 : ∀ w ∈ wsX100, w ∈ uX10_most := fun _ h => List.mem_cons_of_mem _ (List.mem_append_right _ h)
set_option maxRecDepth 20000 in
theorem gX10_most__X10_isLong_S457 : GoodIn uX10_most (va_wsS RX10 457 yX10_isLong uX10_isLong) := goodIn_p _ [4, 8] rfl (by decide +kernel)
set_option maxRecDepth 20000 in
theorem gX10_most__X10_fillWays_V462 : GoodIn uX10_most (wsV RX10 462 RX10 yX10_fillWays uX10_fillWays) := goodIn_p _ [14] rfl (by decide +kernel)
set_option maxHeartbeats 4000000 in
set_option maxRecDepth 100000 in
theorem kX10_most (l : Launch) (dC : Nat → ClassId) (dI : Nat → Nat → Nat) (h0 : Nat) (m_world : Nat) (m_images : Nat) (m_hasImage : Nat) (m_luck : Nat) (m_tape : Nat) (m_five : Nat) (m_fresh : Nat) (m_waits : Nat) (m_figures : Nat) (m_pile : Nat) (m_times : Nat) (m_far : Nat) (m_queue : Nat) (m_months : Nat) (m_ways : Nat) (m_waysOn : Nat) (m_many : Nat) (m_width : Nat) (m_numbers : Nat) (m_moving : Nat) (cJ : ClassId) (cK : ClassId) (f : Nat → Int64) (g : Nat → Int64) (a1 : Int32) (a2 : Int32) (sz : Nat) : Met l yX10_most uX10_most ({ frames := 2, cells := 0, slots := 0, locals := 46 }) (va_Pc [.ref h0, .int a1, .int a2] (hw (dC, dI) vwCl [(h0, .inr (8, [.int 0, .ref m_world, .ref m_images, .ref m_hasImage, .ref m_luck, .ref m_tape, .int 0, .ref m_five, .int 0, .int 0, .int 0, .int 0, .int 0, .int 0, .int (-1), .ref m_fresh, .ref m_waits, .int 0, .int 0, .int 0, .ref m_figures, .ref m_pile, .long 0, .ref m_times, .ref m_far, .ref m_queue, .ref m_months, .ref m_ways, .ref m_waysOn, .ref m_many, .ref m_width, .ref m_numbers, .ref m_moving])), (m_ways, .inl (cJ, 201, .inr (.inl f))), (m_waysOn, .inl (cK, 201, .inr (.inl g)))] [(cJ, .long), (cK, .long)] sz)) (va_Qi (fun (r : Int32) (_ : Unit) => r = msv a1 a2) (fun (_ : Unit) t => va_P (dC, dI) vwCl [] t.heap ∧ va_K (dC, dI) vwCl [] t ∧ va_D (va_A [(h0, .inr (8, [.int 0, .ref m_world, .ref m_images, .ref m_hasImage, .ref m_luck, .ref m_tape, .int 0, .ref m_five, .int 0, .int 0, .int 0, .int 0, .int 0, .int 0, .int (-1), .ref m_fresh, .ref m_waits, .int 0, .int 0, .int 0, .ref m_figures, .ref m_pile, .long 0, .ref m_times, .ref m_far, .ref m_queue, .ref m_months, .ref m_ways, .ref m_waysOn, .ref m_many, .ref m_width, .ref m_numbers, .ref m_moving])), (m_ways, .inl (cJ, 201, .inr (.inl f))), (m_waysOn, .inl (cK, 201, .inr (.inl g)))] sz) []) (va_A [(h0, .inr (8, [.int 0, .ref m_world, .ref m_images, .ref m_hasImage, .ref m_luck, .ref m_tape, .int 0, .ref m_five, .int 0, .int 0, .int 0, .int 0, .int 0, .int 0, .int (-1), .ref m_fresh, .ref m_waits, .int 0, .int 0, .int 0, .ref m_figures, .ref m_pile, .long 0, .ref m_times, .ref m_far, .ref m_queue, .ref m_months, .ref m_ways, .ref m_waysOn, .ref m_many, .ref m_width, .ref m_numbers, .ref m_moving])), (m_ways, .inl (cJ, 201, .inr (.inl f))), (m_waysOn, .inl (cK, 201, .inr (.inl g)))] sz)) 0 0 (va_A [(h0, .inr (8, [.int 0, .ref m_world, .ref m_images, .ref m_hasImage, .ref m_luck, .ref m_tape, .int 0, .ref m_five, .int 0, .int 0, .int 0, .int 0, .int 0, .int 0, .int (-1), .ref m_fresh, .ref m_waits, .int 0, .int 0, .int 0, .ref m_figures, .ref m_pile, .long 0, .ref m_times, .ref m_far, .ref m_queue, .ref m_months, .ref m_ways, .ref m_waysOn, .ref m_many, .ref m_width, .ref m_numbers, .ref m_moving])), (m_ways, .inl (cJ, 201, .inr (.inl f))), (m_waysOn, .inl (cK, 201, .inr (.inl g)))] sz) := by
  refine Met.ofW (cc := cX10_most) (maxL := 5) (ret := (some .int)) (by decide) rfl ?_
  intro p e s m args below meth c s₁ B hml hv
  obtain ⟨rfl, hsz, hP, hK, hD0, hN⟩ := hv
  have hx := B.exec
  have hb := B.bytes
  have hr := B.returns
  have hts := atoms_spec (ws := uX10_most) B.pre
  have hown : s.vm.findClass RX10 = some m.cls := findClass_of_methodNamed B.named
  have hlocks := B.notSynchronized
  subst hsz
  have hD := hD0.self (sz := s.heap.size)
  generalize hAe : va_A [(h0, .inr (8, [.int 0, .ref m_world, .ref m_images, .ref m_hasImage, .ref m_luck, .ref m_tape, .int 0, .ref m_five, .int 0, .int 0, .int 0, .int 0, .int 0, .int 0, .int (-1), .ref m_fresh, .ref m_waits, .int 0, .int 0, .int 0, .ref m_figures, .ref m_pile, .long 0, .ref m_times, .ref m_far, .ref m_queue, .ref m_months, .ref m_ways, .ref m_waysOn, .ref m_many, .ref m_width, .ref m_numbers, .ref m_moving])), (m_ways, .inl (cJ, 201, .inr (.inl f))), (m_waysOn, .inl (cK, 201, .inr (.inl g)))] s.heap.size = A at hD ⊢
  have hA : ∀ q : Nat, s.heap.size ≤ q → A q := fun q h => by rw [← hAe]; exact Or.inr h
  have hS : va_S A s.heap s.heap [] := va_S.rf
  have hP : va_P (dC, dI) vwCl [(h0, .inr (8, [.int 0, .ref m_world, .ref m_images, .ref m_hasImage, .ref m_luck, .ref m_tape, .int 0, .ref m_five, .int 0, .int 0, .int 0, .int 0, .int 0, .int 0, .int (-1), .ref m_fresh, .ref m_waits, .int 0, .int 0, .int 0, .ref m_figures, .ref m_pile, .long 0, .ref m_times, .ref m_far, .ref m_queue, .ref m_months, .ref m_ways, .ref m_waysOn, .ref m_many, .ref m_width, .ref m_numbers, .ref m_moving])), (m_ways, .inl (cJ, 201, .inr (.inl f))), (m_waysOn, .inl (cK, 201, .inr (.inl g)))] s.heap := hP
  have hl := lv_entry ([.ref h0, .int a1, .int a2]) (n := 5) (Nat.le_of_ble_eq_true rfl)
  rw [lg_entry_eq]
  generalize (lg_sl ([.ref h0, .int a1, .int a2]) ++ List.replicate (5 - (lg_sl ([.ref h0, .int a1, .int a2])).length) Slot.unset).toArray = ls at hl ⊢
  have hl : lv_has ls 5 [(0, .ref h0), (1, .int a1), (2, .int a2)] := hl
  refine lv_iload_n hx hb dX10_most_0 rfl (lv_at hl 1 rfl) ?_
  refine lv_iload_n hx hb dX10_most_1 rfl (lv_at hl 2 rfl) ?_
  refine vp_callSi (W.runS (As := [.int a1, .int a2]) (rest := []) ⟨hx, hb, hml, hown, hts⟩ (kX10_isLong l dC dI a1 a2) (va_cwS 2 hts gX10_most__X10_isLong_S457 rfl rfl rfl (by decide +kernel) ⟨lel 2 2 rfl, lel 46 46 rfl⟩) ⟨pn_fb, pn_use⟩ rfl rfl hl.1 rfl (lv_room (Nat.le_of_ble_eq_true rfl)) dX10_most_2 ⟨lel 0 0 rfl, lel 0 0 rfl⟩) (fun r_1 hr_1 => ?_)
  refine lv_if_ne (tgt := 11) hx hb dX10_most_5 (by decide) (fun c_2 => ?_) (fun c_2 => ?_)
  ·
    have hil : ¬ il a1 a2 = 0 := fun e => c_2 (hr_1.trans e)
    obtain ⟨nn, bb, hn1, hn2, hb2, hb3, rfl, rfl⟩ := il_yes hil
    refine lv_aload_n hx hb dX10_most_11 rfl (lv_at hl 0 rfl) ?_
    refine lv_iload_n hx hb dX10_most_12 rfl (lv_at hl 1 rfl) ?_
    refine lv_iconst (v := 0) hx hb dX10_most_13 (by decide) ?_
    refine lv_iload_n hx hb dX10_most_14 rfl (lv_at hl 2 rfl) ?_
    refine lv_iconst (v := 1) hx hb dX10_most_15 (by decide) ?_
    refine lv_isub hx hb dX10_most_16 ?_
    refine lv_topi (fun z_3 ez_3 => ?_)
    obtain rfl : z_3 = nI (bb - 1) := ez_3.trans (pk_sub (a := bb) (b := 1) (by omega))
    have hFc := va_free (wc := [(h0, .inr (8, [.int 0, .ref m_world, .ref m_images, .ref m_hasImage, .ref m_luck, .ref m_tape, .int 0, .ref m_five, .int 0, .int 0, .int 0, .int 0, .int 0, .int 0, .int (-1), .ref m_fresh, .ref m_waits, .int 0, .int 0, .int 0, .ref m_figures, .ref m_pile, .long 0, .ref m_times, .ref m_far, .ref m_queue, .ref m_months, .ref m_ways, .ref m_waysOn, .ref m_many, .ref m_width, .ref m_numbers, .ref m_moving])), (m_ways, .inl (cJ, 201, .inr (.inl f))), (m_waysOn, .inl (cK, 201, .inr (.inl g)))]) hD hS hA [0, 1, 2] rfl
    refine va_callv (va_runV (As := [.int (nI nn), .int 0, .int (nI (bb - 1))]) (rest := []) ⟨hx, hb, hml, hown, hts⟩ (kX10_fillWays l dC dI h0 m_world m_images m_hasImage m_luck m_tape m_five m_fresh m_waits m_figures m_pile m_times m_far m_queue m_months m_ways m_waysOn m_many m_width m_numbers m_moving cJ cK f g nn 0 (bb - 1) (s.heap.size) (by omega) (by omega) (by omega)) (cwV 3 hts gX10_most__X10_fillWays_V462 rfl rfl rfl (by decide +kernel) ⟨lel 1 2 rfl, lel 26 46 rfl⟩) ⟨hw_fb, va_recv hK hP (ci := 8) (q0 := 0) rfl rfl, (hw_use hP hD hK hN [0, 1, 2] rfl (by decide) rfl [0, 1] rfl)⟩ rfl rfl hl.1 rfl (lv_room (Nat.le_of_ble_eq_true rfl)) dX10_most_17 ⟨lel 0 0 rfl, lel 0 0 rfl⟩) hS (fun q _ h => hFc q h) hFc (fun u_5 t H1 locs ht hvm hwr_4 hB hz1 hk1 hS => ?_)
    obtain ⟨f9_6, g9_7, hf_8, hP1, hK1, hD1⟩ := hB
    rw [ht] at hP1
    have hK1 := va_K.moved hvm.symm hK1
    obtain ⟨hP, hD⟩ := va_join (wr := []) (w1 := [(h0, .inr (8, [.int 0, .ref m_world, .ref m_images, .ref m_hasImage, .ref m_luck, .ref m_tape, .int 0, .ref m_five, .int 0, .int 0, .int 0, .int 0, .int 0, .int 0, .int (-1), .ref m_fresh, .ref m_waits, .int 0, .int 0, .int 0, .ref m_figures, .ref m_pile, .long 0, .ref m_times, .ref m_far, .ref m_queue, .ref m_months, .ref m_ways, .ref m_waysOn, .ref m_many, .ref m_width, .ref m_numbers, .ref m_moving])), (m_ways, .inl (cJ, 201, .inr (.inl f9_6))), (m_waysOn, .inl (cK, 201, .inr (.inl g9_7)))]) hP hD [0, 1, 2] [] rfl rfl (by decide) (by decide) hk1 hFc hP1 hD1
    have hK := (hK.sub (tys' := []) [] rfl).app hK1
    generalize H1 = H at hP hS ⊢
    have hP : va_P (dC, dI) vwCl [(h0, .inr (8, [.int 0, .ref m_world, .ref m_images, .ref m_hasImage, .ref m_luck, .ref m_tape, .int 0, .ref m_five, .int 0, .int 0, .int 0, .int 0, .int 0, .int 0, .int (-1), .ref m_fresh, .ref m_waits, .int 0, .int 0, .int 0, .ref m_figures, .ref m_pile, .long 0, .ref m_times, .ref m_far, .ref m_queue, .ref m_months, .ref m_ways, .ref m_waysOn, .ref m_many, .ref m_width, .ref m_numbers, .ref m_moving])), (m_ways, .inl (cJ, 201, .inr (.inl f9_6))), (m_waysOn, .inl (cK, 201, .inr (.inl g9_7)))] H := hP
    have hD : va_D A [(h0, .inr (8, [.int 0, .ref m_world, .ref m_images, .ref m_hasImage, .ref m_luck, .ref m_tape, .int 0, .ref m_five, .int 0, .int 0, .int 0, .int 0, .int 0, .int 0, .int (-1), .ref m_fresh, .ref m_waits, .int 0, .int 0, .int 0, .ref m_figures, .ref m_pile, .long 0, .ref m_times, .ref m_far, .ref m_queue, .ref m_months, .ref m_ways, .ref m_waysOn, .ref m_many, .ref m_width, .ref m_numbers, .ref m_moving])), (m_ways, .inl (cJ, 201, .inr (.inl f9_6))), (m_waysOn, .inl (cK, 201, .inr (.inl g9_7)))] := hD
    have hK : va_K (dC, dI) vwCl [(cJ, .long), (cK, .long)] s := hK
    refine lv_iconst (v := 0) hx hb dX10_most_20 (by decide) ?_
    refine lv_istore_n (lv' := [(3, .int 0), (0, .ref h0), (1, .int (nI nn)), (2, .int (nI bb))]) hx hb dX10_most_21 rfl hl (by decide) rfl (fun ls hl => ?_)
    refine lv_iconst (v := 1) hx hb dX10_most_22 (by decide) ?_
    refine lv_istore (lv' := [(4, .int 1), (3, .int 0), (0, .ref h0), (1, .int (nI nn)), (2, .int (nI bb))]) hx hb dX10_most_23 hl (by decide) rfl (fun ls hl => ?_)
    refine loopW (σ := Nat) (fun v => 202 - v) (fun v H locs ls => (v ≤ 200) ∧ va_P (dC, dI) vwCl [(h0, .inr (8, [.int 0, .ref m_world, .ref m_images, .ref m_hasImage, .ref m_luck, .ref m_tape, .int 0, .ref m_five, .int 0, .int 0, .int 0, .int 0, .int 0, .int 0, .int (-1), .ref m_fresh, .ref m_waits, .int 0, .int 0, .int 0, .ref m_figures, .ref m_pile, .long 0, .ref m_times, .ref m_far, .ref m_queue, .ref m_months, .ref m_ways, .ref m_waysOn, .ref m_many, .ref m_width, .ref m_numbers, .ref m_moving])), (m_ways, .inl (cJ, 201, .inr (.inl f9_6))), (m_waysOn, .inl (cK, 201, .inr (.inl g9_7)))] H ∧ va_D A [(h0, .inr (8, [.int 0, .ref m_world, .ref m_images, .ref m_hasImage, .ref m_luck, .ref m_tape, .int 0, .ref m_five, .int 0, .int 0, .int 0, .int 0, .int 0, .int 0, .int (-1), .ref m_fresh, .ref m_waits, .int 0, .int 0, .int 0, .ref m_figures, .ref m_pile, .long 0, .ref m_times, .ref m_far, .ref m_queue, .ref m_months, .ref m_ways, .ref m_waysOn, .ref m_many, .ref m_width, .ref m_numbers, .ref m_moving])), (m_ways, .inl (cJ, 201, .inr (.inl f9_6))), (m_waysOn, .inl (cK, 201, .inr (.inl g9_7)))] ∧ va_S A s.heap H locs ∧ lv_has ls 5 [(4, .int (nI (v + 1))), (3, .int (nI (mbs (TT 0 (bb - 1) nn) v))), (0, .ref h0), (1, .int (nI nn)), (2, .int (nI bb))]) (fun v H locs ls hI ih_25 => ?_) 0 ⟨(show 0 ≤ 200 from Nat.zero_le _), hP, hD, hS, hl⟩
    obtain ⟨i, rfl⟩ : ∃ z, z = v := ⟨_, rfl⟩
    obtain ⟨hi, hP, hD, hS, hl⟩ := hI
    have hi : i ≤ 200 := hi
    have hP : va_P (dC, dI) vwCl [(h0, .inr (8, [.int 0, .ref m_world, .ref m_images, .ref m_hasImage, .ref m_luck, .ref m_tape, .int 0, .ref m_five, .int 0, .int 0, .int 0, .int 0, .int 0, .int 0, .int (-1), .ref m_fresh, .ref m_waits, .int 0, .int 0, .int 0, .ref m_figures, .ref m_pile, .long 0, .ref m_times, .ref m_far, .ref m_queue, .ref m_months, .ref m_ways, .ref m_waysOn, .ref m_many, .ref m_width, .ref m_numbers, .ref m_moving])), (m_ways, .inl (cJ, 201, .inr (.inl f9_6))), (m_waysOn, .inl (cK, 201, .inr (.inl g9_7)))] H := hP
    have hD : va_D A [(h0, .inr (8, [.int 0, .ref m_world, .ref m_images, .ref m_hasImage, .ref m_luck, .ref m_tape, .int 0, .ref m_five, .int 0, .int 0, .int 0, .int 0, .int 0, .int 0, .int (-1), .ref m_fresh, .ref m_waits, .int 0, .int 0, .int 0, .ref m_figures, .ref m_pile, .long 0, .ref m_times, .ref m_far, .ref m_queue, .ref m_months, .ref m_ways, .ref m_waysOn, .ref m_many, .ref m_width, .ref m_numbers, .ref m_moving])), (m_ways, .inl (cJ, 201, .inr (.inl f9_6))), (m_waysOn, .inl (cK, 201, .inr (.inl g9_7)))] := hD
    have hl : lv_has ls 5 [(4, .int (nI (i + 1))), (3, .int (nI (mbs (TT 0 (bb - 1) nn) i))), (0, .ref h0), (1, .int (nI nn)), (2, .int (nI bb))] := hl
    have hmb := mbs_le (TT 0 (bb - 1) nn) i
    refine lv_iload hx hb dX10_most_25 (lv_at hl 0 rfl) ?_
    refine lv_sipush (v := 201) hx hb dX10_most_27 (by decide) ?_
    refine lv_icmp_ge (tgt := 63) hx hb dX10_most_30 (by decide) (fun c_9 => ?_) (fun c_9 => ?_)
    ·
      have nc_9 : 201 ≤ i + 1 := (nI_leI (a := 201) (b := i + 1) (by omega) (by omega)).mp c_9
      refine lv_iload_n hx hb dX10_most_63 rfl (lv_at hl 1 rfl) ?_
      have hP9 := hP.sub (ws' := []) [] rfl
      have hD9 := hD.sub (ws' := []) [] (by decide) rfl
      have hK9 := hK.sub (tys' := []) [] rfl
      exact W.iret (v := (nI (mbs (TT 0 (bb - 1) nn) i))) hx hb hr (fun t ht hW => ⟨⟨(nI (mbs (TT 0 (bb - 1) nn) i)), (), rfl, ms_c hil hn2 hb3 (by rw [show i = 180 + 20 by omega]; exact mbs_out (TT_z _ _) 20 (fun s9 h9 => TT_out _ _ _ (ms_z hn2 hb3 h9))), by rw [ht]; exact hP9, va_K.moved hW.alike hK9, hD9⟩, hS.F ht⟩) hS.2.2 dX10_most_64
    ·
      have nc_9 : ¬ 201 ≤ i + 1 := fun q9 => c_9 ((nI_leI (a := 201) (b := i + 1) (by omega) (by omega)).mpr q9)
      refine lv_aload_n hx hb dX10_most_33 rfl (lv_at hl 2 rfl) ?_
      refine va_get (D := (dC, dI)) (ci := 8) (v := .ref m_ways) (C := RX10) (T := TX10) (N := 33) hx hb hts iX10_most_X10 hown hK hP 0 rfl rfl 27 (by decide) (hts (.fieldLink RX10 58 "LuckyTicketModel" "ways" "[J") (List.mem_of_getElem? (i := 15) rfl)) (fun _ h9 => h9) rfl dX10_most_34 ?_
      refine lv_iload hx hb dX10_most_37 (lv_at hl 0 rfl) ?_
      refine va_lald hx hb hK hP 1 0 rfl rfl (vp_in_nI (n := i + 1) (by omega) (by decide)) dX10_most_39 ?_
      refine lv_topl (fun z_10 ez_10 => ?_)
      rw [nI_clamp (n := i + 1) (by omega)] at ez_10
      refine lv_aload_n hx hb dX10_most_40 rfl (lv_at hl 2 rfl) ?_
      refine va_get (D := (dC, dI)) (ci := 8) (v := .ref m_ways) (C := RX10) (T := TX10) (N := 33) hx hb hts iX10_most_X10 hown hK hP 0 rfl rfl 27 (by decide) (hts (.fieldLink RX10 58 "LuckyTicketModel" "ways" "[J") (List.mem_of_getElem? (i := 15) rfl)) (fun _ h9 => h9) rfl dX10_most_41 ?_
      refine lv_iload_n hx hb dX10_most_44 rfl (lv_at hl 1 rfl) ?_
      refine va_lald hx hb hK hP 1 0 rfl rfl (vp_in_nI (n := mbs (TT 0 (bb - 1) nn) i) (by omega) (by decide)) dX10_most_45 ?_
      refine lv_topl (fun z_11 ez_11 => ?_)
      rw [nI_clamp (n := mbs (TT 0 (bb - 1) nn) i) (by omega)] at ez_11
      refine W.lcmp hx hb dX10_most_46 ?_
      refine lv_if_le (tgt := 55) hx hb dX10_most_47 (by decide) (fun c_12 => ?_) (fun c_12 => ?_)
      ·
        refine lv_iload_n hx hb dX10_most_55 rfl (lv_at hl 1 rfl) ?_
        refine lv_istore_n (lv' := [(3, .int (nI (mbs (TT 0 (bb - 1) nn) i))), (4, .int (nI (i + 1))), (0, .ref h0), (1, .int (nI nn)), (2, .int (nI bb))]) hx hb dX10_most_56 rfl hl (by decide) rfl (fun ls hl => ?_)
        obtain ⟨z_13, ez_13⟩ : ∃ y : Int32, y = nI (i + 1) + 1 := ⟨_, rfl⟩
        refine lv_iinc (v := z_13) (lv' := [(4, .int z_13), (3, .int (nI (mbs (TT 0 (bb - 1) nn) i))), (0, .ref h0), (1, .int (nI nn)), (2, .int (nI bb))]) hx hb dX10_most_57 hl (k := 1) rfl (by rw [ez_13]; rfl) (by decide) rfl (fun ls hl => ?_)
        obtain rfl : z_13 = nI ((i + 1) + 1) := ez_13.trans (nI_add (i + 1) 1)
        refine lv_goto (tgt := 25) hx hb dX10_most_60 (by decide) ?_
        have hl : lv_has ls 5 [(4, .int (nI ((i + 1) + 1))), (3, .int (nI (mbs (TT 0 (bb - 1) nn) (i + 1)))), (0, .ref h0), (1, .int (nI nn)), (2, .int (nI bb))] := by rw [mbs_0 (by rw [← hf_8 _ (by omega), ← hf_8 (i + 1) (by omega), ← ez_11, ← ez_10]; exact fb_not2 ((lg_cmp_le _ _).mp c_12))]; exact hl
        exact ih_25 (i + 1) _ _ _ ⟨(show (i + 1) ≤ 200 from (by omega)), hP, hD, hS, lv_sub hl [0, 1, 2, 3, 4] rfl⟩ (show 202 - (i + 1) < 202 - i by omega)
      ·
        refine lv_iload hx hb dX10_most_50 (lv_at hl 0 rfl) ?_
        refine lv_goto (tgt := 56) hx hb dX10_most_52 (by decide) ?_
        refine lv_istore_n (lv' := [(3, .int (nI (i + 1))), (4, .int (nI (i + 1))), (0, .ref h0), (1, .int (nI nn)), (2, .int (nI bb))]) hx hb dX10_most_56 rfl hl (by decide) rfl (fun ls hl => ?_)
        obtain ⟨z_14, ez_14⟩ : ∃ y : Int32, y = nI (i + 1) + 1 := ⟨_, rfl⟩
        refine lv_iinc (v := z_14) (lv' := [(4, .int z_14), (3, .int (nI (i + 1))), (0, .ref h0), (1, .int (nI nn)), (2, .int (nI bb))]) hx hb dX10_most_57 hl (k := 1) rfl (by rw [ez_14]; rfl) (by decide) rfl (fun ls hl => ?_)
        obtain rfl : z_14 = nI ((i + 1) + 1) := ez_14.trans (nI_add (i + 1) 1)
        refine lv_goto (tgt := 25) hx hb dX10_most_60 (by decide) ?_
        have hl : lv_has ls 5 [(4, .int (nI ((i + 1) + 1))), (3, .int (nI (mbs (TT 0 (bb - 1) nn) (i + 1)))), (0, .ref h0), (1, .int (nI nn)), (2, .int (nI bb))] := by rw [mbs_1 (by rw [← hf_8 _ (by omega), ← hf_8 (i + 1) (by omega), ← ez_11, ← ez_10]; exact fb_gt (fun q => c_12 ((lg_cmp_le _ _).mpr q)))]; exact hl
        exact ih_25 (i + 1) _ _ _ ⟨(show (i + 1) ≤ 200 from (by omega)), hP, hD, hS, lv_sub hl [0, 1, 2, 3, 4] rfl⟩ (show 202 - (i + 1) < 202 - i by omega)
  ·
    refine lv_bipush (v := (-2)) hx hb dX10_most_8 (by decide) ?_
    have hP9 := hP.sub (ws' := []) [] rfl
    have hD9 := hD.sub (ws' := []) [] (by decide) rfl
    have hK9 := hK.sub (tys' := []) [] rfl
    exact W.iret (v := (-2)) hx hb hr (fun t ht hW => ⟨⟨(-2), (), rfl, ms_a (hr_1.symm.trans c_2), by rw [ht]; exact hP9, va_K.moved hW.alike hK9, hD9⟩, hS.F ht⟩) hS.2.2 dX10_most_10
theorem dX10_dice_0 : decode cX10_dice 0 = .ok (.iload_n 1, 1) := by decide +kernel
theorem dX10_dice_1 : decode cX10_dice 1 = .ok (.i2l, 1) := by decide +kernel
theorem dX10_dice_2 : decode cX10_dice 2 = .ok (.lconst 1, 1) := by decide +kernel
theorem dX10_dice_3 : decode cX10_dice 3 = .ok (.ldc2_w 453, 3) := by decide +kernel
theorem dX10_dice_6 : decode cX10_dice 6 = .ok (.invokestatic 82, 3) := by decide +kernel
theorem dX10_dice_9 : decode cX10_dice 9 = .ok (.ifCond .eq 29, 3) := by decide +kernel
theorem dX10_dice_12 : decode cX10_dice 12 = .ok (.iload_n 2, 1) := by decide +kernel
theorem dX10_dice_13 : decode cX10_dice 13 = .ok (.i2l, 1) := by decide +kernel
theorem dX10_dice_14 : decode cX10_dice 14 = .ok (.ldc2_w 80, 3) := by decide +kernel
theorem dX10_dice_17 : decode cX10_dice 17 = .ok (.ldc2_w 455, 3) := by decide +kernel
theorem dX10_dice_20 : decode cX10_dice 20 = .ok (.invokestatic 82, 3) := by decide +kernel
theorem dX10_dice_23 : decode cX10_dice 23 = .ok (.ifCond .eq 15, 3) := by decide +kernel
theorem dX10_dice_26 : decode cX10_dice 26 = .ok (.iload_n 3, 1) := by decide +kernel
theorem dX10_dice_27 : decode cX10_dice 27 = .ok (.i2l, 1) := by decide +kernel
theorem dX10_dice_28 : decode cX10_dice 28 = .ok (.lconst 0, 1) := by decide +kernel
theorem dX10_dice_29 : decode cX10_dice 29 = .ok (.ldc2_w 465, 3) := by decide +kernel
theorem dX10_dice_32 : decode cX10_dice 32 = .ok (.invokestatic 82, 3) := by decide +kernel
theorem dX10_dice_35 : decode cX10_dice 35 = .ok (.ifCond .ne 7, 3) := by decide +kernel
theorem dX10_dice_38 : decode cX10_dice 38 = .ok (.ldc2_w 416, 3) := by decide +kernel
theorem dX10_dice_41 : decode cX10_dice 41 = .ok (.lreturn, 1) := by decide +kernel
theorem dX10_dice_42 : decode cX10_dice 42 = .ok (.aload_n 0, 1) := by decide +kernel
theorem dX10_dice_43 : decode cX10_dice 43 = .ok (.iload_n 1, 1) := by decide +kernel
theorem dX10_dice_44 : decode cX10_dice 44 = .ok (.iconst 1, 1) := by decide +kernel
theorem dX10_dice_45 : decode cX10_dice 45 = .ok (.iload_n 2, 1) := by decide +kernel
theorem dX10_dice_46 : decode cX10_dice 46 = .ok (.invokevirtual 462, 3) := by decide +kernel
theorem dX10_dice_49 : decode cX10_dice 49 = .ok (.aload_n 0, 1) := by decide +kernel
theorem dX10_dice_50 : decode cX10_dice 50 = .ok (.getfield 58, 3) := by decide +kernel
theorem dX10_dice_53 : decode cX10_dice 53 = .ok (.iload_n 3, 1) := by decide +kernel
theorem dX10_dice_54 : decode cX10_dice 54 = .ok (.laload, 1) := by decide +kernel
theorem dX10_dice_55 : decode cX10_dice 55 = .ok (.lreturn, 1) := by decide +kernel
def uX10_dice : List Cond := .code yX10_dice cX10_dice 4 (some .long) :: ([.constantLong RX10 453 (12), .methodLink RX10 82 yX10_in, .static yX10_in, .initialized RX10, .code yX10_in cX10_in 6 (some .boolean), .constantLong RX10 416 (-2), .constantLong RX10 80 (2), .constantLong RX10 455 (16), .constantLong RX10 465 (200), .methodLink RX10 462 yX10_fillWays, .instanceMethod yX10_fillWays, .selects RX10 yX10_fillWays yX10_fillWays, .code yX10_fillWays cX10_fillWays 7 none, .fieldLink RX10 58 "LuckyTicketModel" "ways" "[J", .fieldLink RX10 62 "LuckyTicketModel" "waysOn" "[J"] ++ wsX100)
theorem iX10_dice_X10 : ∀ w ∈ wsX100, w ∈ uX10_dice := fun _ h => List.mem_cons_of_mem _ (List.mem_append_right _ h)
set_option maxRecDepth 20000 in
theorem gX10_dice__X10_in_S82 : GoodIn uX10_dice (va_wsS RX10 82 yX10_in uX10_in) := goodIn_p _ [5] rfl (by decide +kernel)
set_option maxRecDepth 20000 in
theorem gX10_dice__X10_fillWays_V462 : GoodIn uX10_dice (wsV RX10 462 RX10 yX10_fillWays uX10_fillWays) := goodIn_p _ [13] rfl (by decide +kernel)
set_option maxHeartbeats 4000000 in
set_option maxRecDepth 100000 in
theorem kX10_dice (l : Launch) (dC : Nat → ClassId) (dI : Nat → Nat → Nat) (h0 : Nat) (m_world : Nat) (m_images : Nat) (m_hasImage : Nat) (m_luck : Nat) (m_tape : Nat) (m_five : Nat) (m_fresh : Nat) (m_waits : Nat) (m_figures : Nat) (m_pile : Nat) (m_times : Nat) (m_far : Nat) (m_queue : Nat) (m_months : Nat) (m_ways : Nat) (m_waysOn : Nat) (m_many : Nat) (m_width : Nat) (m_numbers : Nat) (m_moving : Nat) (cJ : ClassId) (cK : ClassId) (f : Nat → Int64) (g : Nat → Int64) (a1 : Int32) (a2 : Int32) (a3 : Int32) (sz : Nat) : Met l yX10_dice uX10_dice ({ frames := 1, cells := 0, slots := 0, locals := 26 }) (va_Pc [.ref h0, .int a1, .int a2, .int a3] (hw (dC, dI) vwCl [(h0, .inr (8, [.int 0, .ref m_world, .ref m_images, .ref m_hasImage, .ref m_luck, .ref m_tape, .int 0, .ref m_five, .int 0, .int 0, .int 0, .int 0, .int 0, .int 0, .int (-1), .ref m_fresh, .ref m_waits, .int 0, .int 0, .int 0, .ref m_figures, .ref m_pile, .long 0, .ref m_times, .ref m_far, .ref m_queue, .ref m_months, .ref m_ways, .ref m_waysOn, .ref m_many, .ref m_width, .ref m_numbers, .ref m_moving])), (m_ways, .inl (cJ, 201, .inr (.inl f))), (m_waysOn, .inl (cK, 201, .inr (.inl g)))] [(cJ, .long), (cK, .long)] sz)) (va_Ql (fun (r : Int64) (_ : Unit) => r = dcv a1 a2 a3) (fun (_ : Unit) t => va_P (dC, dI) vwCl [] t.heap ∧ va_K (dC, dI) vwCl [] t ∧ va_D (va_A [(h0, .inr (8, [.int 0, .ref m_world, .ref m_images, .ref m_hasImage, .ref m_luck, .ref m_tape, .int 0, .ref m_five, .int 0, .int 0, .int 0, .int 0, .int 0, .int 0, .int (-1), .ref m_fresh, .ref m_waits, .int 0, .int 0, .int 0, .ref m_figures, .ref m_pile, .long 0, .ref m_times, .ref m_far, .ref m_queue, .ref m_months, .ref m_ways, .ref m_waysOn, .ref m_many, .ref m_width, .ref m_numbers, .ref m_moving])), (m_ways, .inl (cJ, 201, .inr (.inl f))), (m_waysOn, .inl (cK, 201, .inr (.inl g)))] sz) []) (va_A [(h0, .inr (8, [.int 0, .ref m_world, .ref m_images, .ref m_hasImage, .ref m_luck, .ref m_tape, .int 0, .ref m_five, .int 0, .int 0, .int 0, .int 0, .int 0, .int 0, .int (-1), .ref m_fresh, .ref m_waits, .int 0, .int 0, .int 0, .ref m_figures, .ref m_pile, .long 0, .ref m_times, .ref m_far, .ref m_queue, .ref m_months, .ref m_ways, .ref m_waysOn, .ref m_many, .ref m_width, .ref m_numbers, .ref m_moving])), (m_ways, .inl (cJ, 201, .inr (.inl f))), (m_waysOn, .inl (cK, 201, .inr (.inl g)))] sz)) 0 0 (va_A [(h0, .inr (8, [.int 0, .ref m_world, .ref m_images, .ref m_hasImage, .ref m_luck, .ref m_tape, .int 0, .ref m_five, .int 0, .int 0, .int 0, .int 0, .int 0, .int 0, .int (-1), .ref m_fresh, .ref m_waits, .int 0, .int 0, .int 0, .ref m_figures, .ref m_pile, .long 0, .ref m_times, .ref m_far, .ref m_queue, .ref m_months, .ref m_ways, .ref m_waysOn, .ref m_many, .ref m_width, .ref m_numbers, .ref m_moving])), (m_ways, .inl (cJ, 201, .inr (.inl f))), (m_waysOn, .inl (cK, 201, .inr (.inl g)))] sz) := by
  refine Met.ofW (cc := cX10_dice) (maxL := 4) (ret := (some .long)) (by decide) rfl ?_
  intro p e s m args below meth c s₁ B hml hv
  obtain ⟨rfl, hsz, hP, hK, hD0, hN⟩ := hv
  have hx := B.exec
  have hb := B.bytes
  have hr := B.returns
  have hts := atoms_spec (ws := uX10_dice) B.pre
  have hown : s.vm.findClass RX10 = some m.cls := findClass_of_methodNamed B.named
  have hlocks := B.notSynchronized
  subst hsz
  have hD := hD0.self (sz := s.heap.size)
  generalize hAe : va_A [(h0, .inr (8, [.int 0, .ref m_world, .ref m_images, .ref m_hasImage, .ref m_luck, .ref m_tape, .int 0, .ref m_five, .int 0, .int 0, .int 0, .int 0, .int 0, .int 0, .int (-1), .ref m_fresh, .ref m_waits, .int 0, .int 0, .int 0, .ref m_figures, .ref m_pile, .long 0, .ref m_times, .ref m_far, .ref m_queue, .ref m_months, .ref m_ways, .ref m_waysOn, .ref m_many, .ref m_width, .ref m_numbers, .ref m_moving])), (m_ways, .inl (cJ, 201, .inr (.inl f))), (m_waysOn, .inl (cK, 201, .inr (.inl g)))] s.heap.size = A at hD ⊢
  have hA : ∀ q : Nat, s.heap.size ≤ q → A q := fun q h => by rw [← hAe]; exact Or.inr h
  have hS : va_S A s.heap s.heap [] := va_S.rf
  have hP : va_P (dC, dI) vwCl [(h0, .inr (8, [.int 0, .ref m_world, .ref m_images, .ref m_hasImage, .ref m_luck, .ref m_tape, .int 0, .ref m_five, .int 0, .int 0, .int 0, .int 0, .int 0, .int 0, .int (-1), .ref m_fresh, .ref m_waits, .int 0, .int 0, .int 0, .ref m_figures, .ref m_pile, .long 0, .ref m_times, .ref m_far, .ref m_queue, .ref m_months, .ref m_ways, .ref m_waysOn, .ref m_many, .ref m_width, .ref m_numbers, .ref m_moving])), (m_ways, .inl (cJ, 201, .inr (.inl f))), (m_waysOn, .inl (cK, 201, .inr (.inl g)))] s.heap := hP
  have hl := lv_entry ([.ref h0, .int a1, .int a2, .int a3]) (n := 4) (Nat.le_of_ble_eq_true rfl)
  rw [lg_entry_eq]
  generalize (lg_sl ([.ref h0, .int a1, .int a2, .int a3]) ++ List.replicate (4 - (lg_sl ([.ref h0, .int a1, .int a2, .int a3])).length) Slot.unset).toArray = ls at hl ⊢
  have hl : lv_has ls 4 [(0, .ref h0), (1, .int a1), (2, .int a2), (3, .int a3)] := hl
  refine lv_iload_n hx hb dX10_dice_0 rfl (lv_at hl 1 rfl) ?_
  refine lv_i2l (v := a1.toInt64) hx hb dX10_dice_1 rfl ?_
  refine lv_lconst (v := 1) hx hb dX10_dice_2 (by decide) ?_
  refine lv_ldc2 (v := 12) hx hb hown (hts (.constantLong RX10 453 (12)) (List.mem_of_getElem? (i := 1) rfl)) dX10_dice_3 ?_
  refine vp_callSi (W.runS (As := [.long a1.toInt64, .long 1, .long 12]) (rest := []) ⟨hx, hb, hml, hown, hts⟩ (kX10_in l dC dI a1.toInt64 1 12) (va_cwS 3 hts gX10_dice__X10_in_S82 rfl rfl rfl (by decide +kernel) ⟨lel 1 1 rfl, lel 25 26 rfl⟩) ⟨pn_fb, pn_use⟩ rfl rfl hl.1 rfl (lv_room (Nat.le_of_ble_eq_true rfl)) dX10_dice_6 ⟨lel 0 0 rfl, lel 0 0 rfl⟩) (fun r_1 hr_1 => ?_)
  refine lv_if_eq (tgt := 38) hx hb dX10_dice_9 (by decide) (fun c_2 => ?_) (fun c_2 => ?_)
  ·
    refine lv_ldc2 (v := (-2)) hx hb hown (hts (.constantLong RX10 416 (-2)) (List.mem_of_getElem? (i := 6) rfl)) dX10_dice_38 ?_
    have hP9 := hP.sub (ws' := []) [] rfl
    have hD9 := hD.sub (ws' := []) [] (by decide) rfl
    have hK9 := hK.sub (tys' := []) [] rfl
    exact W.lret (v := (-2)) hx hb hr (fun t ht hW => ⟨⟨(-2), (), rfl, dc_a (il_a ((inr_wi a1 1 12).symm.trans (hr_1.symm.trans c_2))).symm, by rw [ht]; exact hP9, va_K.moved hW.alike hK9, hD9⟩, hS.F ht⟩) hS.2.2 dX10_dice_41
  ·
    refine lv_iload_n hx hb dX10_dice_12 rfl (lv_at hl 2 rfl) ?_
    refine lv_i2l (v := a2.toInt64) hx hb dX10_dice_13 rfl ?_
    refine lv_ldc2 (v := 2) hx hb hown (hts (.constantLong RX10 80 (2)) (List.mem_of_getElem? (i := 7) rfl)) dX10_dice_14 ?_
    refine lv_ldc2 (v := 16) hx hb hown (hts (.constantLong RX10 455 (16)) (List.mem_of_getElem? (i := 8) rfl)) dX10_dice_17 ?_
    refine vp_callSi (W.runS (As := [.long a2.toInt64, .long 2, .long 16]) (rest := []) ⟨hx, hb, hml, hown, hts⟩ (kX10_in l dC dI a2.toInt64 2 16) (va_cwS 3 hts gX10_dice__X10_in_S82 rfl rfl rfl (by decide +kernel) ⟨lel 1 1 rfl, lel 25 26 rfl⟩) ⟨pn_fb, pn_use⟩ rfl rfl hl.1 rfl (lv_room (Nat.le_of_ble_eq_true rfl)) dX10_dice_20 ⟨lel 0 0 rfl, lel 0 0 rfl⟩) (fun r_3 hr_3 => ?_)
    refine lv_if_eq (tgt := 38) hx hb dX10_dice_23 (by decide) (fun c_4 => ?_) (fun c_4 => ?_)
    ·
      refine lv_ldc2 (v := (-2)) hx hb hown (hts (.constantLong RX10 416 (-2)) (List.mem_of_getElem? (i := 6) rfl)) dX10_dice_38 ?_
      have hP9 := hP.sub (ws' := []) [] rfl
      have hD9 := hD.sub (ws' := []) [] (by decide) rfl
      have hK9 := hK.sub (tys' := []) [] rfl
      exact W.lret (v := (-2)) hx hb hr (fun t ht hW => ⟨⟨(-2), (), rfl, dc_a (il_b ((inr_wi a2 2 16).symm.trans (hr_3.symm.trans c_4))).symm, by rw [ht]; exact hP9, va_K.moved hW.alike hK9, hD9⟩, hS.F ht⟩) hS.2.2 dX10_dice_41
    ·
      refine lv_iload_n hx hb dX10_dice_26 rfl (lv_at hl 3 rfl) ?_
      refine lv_i2l (v := a3.toInt64) hx hb dX10_dice_27 rfl ?_
      refine lv_lconst (v := 0) hx hb dX10_dice_28 (by decide) ?_
      refine lv_ldc2 (v := 200) hx hb hown (hts (.constantLong RX10 465 (200)) (List.mem_of_getElem? (i := 9) rfl)) dX10_dice_29 ?_
      refine vp_callSi (W.runS (As := [.long a3.toInt64, .long 0, .long 200]) (rest := []) ⟨hx, hb, hml, hown, hts⟩ (kX10_in l dC dI a3.toInt64 0 200) (va_cwS 3 hts gX10_dice__X10_in_S82 rfl rfl rfl (by decide +kernel) ⟨lel 1 1 rfl, lel 25 26 rfl⟩) ⟨pn_fb, pn_use⟩ rfl rfl hl.1 rfl (lv_room (Nat.le_of_ble_eq_true rfl)) dX10_dice_32 ⟨lel 0 0 rfl, lel 0 0 rfl⟩) (fun r_5 hr_5 => ?_)
      refine lv_if_ne (tgt := 42) hx hb dX10_dice_35 (by decide) (fun c_6 => ?_) (fun c_6 => ?_)
      ·
        have hil : ¬ il a1 a2 = 0 := by rw [← il_1 (a := a1) (b := a2) (fun e => c_2 (hr_1.trans ((inr_wi a1 1 12).trans e))) (fun e => c_4 (hr_3.trans ((inr_wi a2 2 16).trans e)))]; decide
        have hth : ¬ wi a3 0 200 = 0 := fun e => c_6 (hr_5.trans ((inr_wi a3 0 200).trans e))
        obtain ⟨nn, bb, hn1, hn2, hb2, hb3, rfl, rfl⟩ := il_yes hil
        obtain ⟨qq, hq, rfl⟩ := wi_200 hth
        refine lv_aload_n hx hb dX10_dice_42 rfl (lv_at hl 0 rfl) ?_
        refine lv_iload_n hx hb dX10_dice_43 rfl (lv_at hl 1 rfl) ?_
        refine lv_iconst (v := 1) hx hb dX10_dice_44 (by decide) ?_
        refine lv_iload_n hx hb dX10_dice_45 rfl (lv_at hl 2 rfl) ?_
        have hFc := va_free (wc := [(h0, .inr (8, [.int 0, .ref m_world, .ref m_images, .ref m_hasImage, .ref m_luck, .ref m_tape, .int 0, .ref m_five, .int 0, .int 0, .int 0, .int 0, .int 0, .int 0, .int (-1), .ref m_fresh, .ref m_waits, .int 0, .int 0, .int 0, .ref m_figures, .ref m_pile, .long 0, .ref m_times, .ref m_far, .ref m_queue, .ref m_months, .ref m_ways, .ref m_waysOn, .ref m_many, .ref m_width, .ref m_numbers, .ref m_moving])), (m_ways, .inl (cJ, 201, .inr (.inl f))), (m_waysOn, .inl (cK, 201, .inr (.inl g)))]) hD hS hA [0, 1, 2] rfl
        refine va_callv (va_runV (As := [.int (nI nn), .int 1, .int (nI bb)]) (rest := []) ⟨hx, hb, hml, hown, hts⟩ (kX10_fillWays l dC dI h0 m_world m_images m_hasImage m_luck m_tape m_five m_fresh m_waits m_figures m_pile m_times m_far m_queue m_months m_ways m_waysOn m_many m_width m_numbers m_moving cJ cK f g nn 1 bb (s.heap.size) (by omega) (by omega) (by omega)) (cwV 3 hts gX10_dice__X10_fillWays_V462 rfl rfl rfl (by decide +kernel) ⟨lel 1 1 rfl, lel 26 26 rfl⟩) ⟨hw_fb, va_recv hK hP (ci := 8) (q0 := 0) rfl rfl, (hw_use hP hD hK hN [0, 1, 2] rfl (by decide) rfl [0, 1] rfl)⟩ rfl rfl hl.1 rfl (lv_room (Nat.le_of_ble_eq_true rfl)) dX10_dice_46 ⟨lel 0 0 rfl, lel 0 0 rfl⟩) hS (fun q _ h => hFc q h) hFc (fun u_8 t H1 locs ht hvm hwr_7 hB hz1 hk1 hS => ?_)
        obtain ⟨f9_9, g9_10, hf_11, hP1, hK1, hD1⟩ := hB
        rw [ht] at hP1
        have hK1 := va_K.moved hvm.symm hK1
        obtain ⟨hP, hD⟩ := va_join (wr := []) (w1 := [(h0, .inr (8, [.int 0, .ref m_world, .ref m_images, .ref m_hasImage, .ref m_luck, .ref m_tape, .int 0, .ref m_five, .int 0, .int 0, .int 0, .int 0, .int 0, .int 0, .int (-1), .ref m_fresh, .ref m_waits, .int 0, .int 0, .int 0, .ref m_figures, .ref m_pile, .long 0, .ref m_times, .ref m_far, .ref m_queue, .ref m_months, .ref m_ways, .ref m_waysOn, .ref m_many, .ref m_width, .ref m_numbers, .ref m_moving])), (m_ways, .inl (cJ, 201, .inr (.inl f9_9))), (m_waysOn, .inl (cK, 201, .inr (.inl g9_10)))]) hP hD [0, 1, 2] [] rfl rfl (by decide) (by decide) hk1 hFc hP1 hD1
        have hK := (hK.sub (tys' := []) [] rfl).app hK1
        generalize H1 = H at hP hS ⊢
        have hP : va_P (dC, dI) vwCl [(h0, .inr (8, [.int 0, .ref m_world, .ref m_images, .ref m_hasImage, .ref m_luck, .ref m_tape, .int 0, .ref m_five, .int 0, .int 0, .int 0, .int 0, .int 0, .int 0, .int (-1), .ref m_fresh, .ref m_waits, .int 0, .int 0, .int 0, .ref m_figures, .ref m_pile, .long 0, .ref m_times, .ref m_far, .ref m_queue, .ref m_months, .ref m_ways, .ref m_waysOn, .ref m_many, .ref m_width, .ref m_numbers, .ref m_moving])), (m_ways, .inl (cJ, 201, .inr (.inl f9_9))), (m_waysOn, .inl (cK, 201, .inr (.inl g9_10)))] H := hP
        have hD : va_D A [(h0, .inr (8, [.int 0, .ref m_world, .ref m_images, .ref m_hasImage, .ref m_luck, .ref m_tape, .int 0, .ref m_five, .int 0, .int 0, .int 0, .int 0, .int 0, .int 0, .int (-1), .ref m_fresh, .ref m_waits, .int 0, .int 0, .int 0, .ref m_figures, .ref m_pile, .long 0, .ref m_times, .ref m_far, .ref m_queue, .ref m_months, .ref m_ways, .ref m_waysOn, .ref m_many, .ref m_width, .ref m_numbers, .ref m_moving])), (m_ways, .inl (cJ, 201, .inr (.inl f9_9))), (m_waysOn, .inl (cK, 201, .inr (.inl g9_10)))] := hD
        have hK : va_K (dC, dI) vwCl [(cJ, .long), (cK, .long)] s := hK
        refine lv_aload_n hx hb dX10_dice_49 rfl (lv_at hl 0 rfl) ?_
        refine va_get (D := (dC, dI)) (ci := 8) (v := .ref m_ways) (C := RX10) (T := TX10) (N := 33) hx hb hts iX10_dice_X10 hown hK hP 0 rfl rfl 27 (by decide) (hts (.fieldLink RX10 58 "LuckyTicketModel" "ways" "[J") (List.mem_of_getElem? (i := 14) rfl)) (fun _ h9 => h9) rfl dX10_dice_50 ?_
        refine lv_iload_n hx hb dX10_dice_53 rfl (lv_at hl 3 rfl) ?_
        refine va_lald hx hb hK hP 1 0 rfl rfl (vp_in_nI (n := qq) (by omega) (by decide)) dX10_dice_54 ?_
        refine lv_topl (fun z_12 ez_12 => ?_)
        rw [nI_clamp (n := qq) (by omega)] at ez_12
        have hP9 := hP.sub (ws' := []) [] rfl
        have hD9 := hD.sub (ws' := []) [] (by decide) rfl
        have hK9 := hK.sub (tys' := []) [] rfl
        exact W.lret (v := z_12) hx hb hr (fun t ht hW => ⟨⟨z_12, (), rfl, dc_c hil hth hn2 hb3 hq (ez_12.trans (hf_11 _ (by omega))), by rw [ht]; exact hP9, va_K.moved hW.alike hK9, hD9⟩, hS.F ht⟩) hS.2.2 dX10_dice_55
      ·
        refine lv_ldc2 (v := (-2)) hx hb hown (hts (.constantLong RX10 416 (-2)) (List.mem_of_getElem? (i := 6) rfl)) dX10_dice_38 ?_
        have hP9 := hP.sub (ws' := []) [] rfl
        have hD9 := hD.sub (ws' := []) [] (by decide) rfl
        have hK9 := hK.sub (tys' := []) [] rfl
        exact W.lret (v := (-2)) hx hb hr (fun t ht hW => ⟨⟨(-2), (), rfl, dc_b ((inr_wi a3 0 200).symm.trans (hr_5.symm.trans c_6)), by rw [ht]; exact hP9, va_K.moved hW.alike hK9, hD9⟩, hS.F ht⟩) hS.2.2 dX10_dice_41
