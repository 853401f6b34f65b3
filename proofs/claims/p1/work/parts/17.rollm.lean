theorem dX10_image_0 : decode cX10_image 0 = .ok (.iload_n 1, 1) := by decide +kernel
theorem dX10_image_1 : decode cX10_image 1 = .ok (.i2l, 1) := by decide +kernel
theorem dX10_image_2 : decode cX10_image 2 = .ok (.lconst 0, 1) := by decide +kernel
theorem dX10_image_3 : decode cX10_image 3 = .ok (.ldc2_w 80, 3) := by decide +kernel
theorem dX10_image_6 : decode cX10_image 6 = .ok (.invokestatic 82, 3) := by decide +kernel
theorem dX10_image_9 : decode cX10_image 9 = .ok (.ifCond .ne 6, 3) := by decide +kernel
theorem dX10_image_12 : decode cX10_image 12 = .ok (.bipush (-2), 2) := by decide +kernel
theorem dX10_image_14 : decode cX10_image 14 = .ok (.ireturn, 1) := by decide +kernel
theorem dX10_image_15 : decode cX10_image 15 = .ok (.iconst 0, 1) := by decide +kernel
theorem dX10_image_16 : decode cX10_image 16 = .ok (.istore_n 2, 1) := by decide +kernel
theorem dX10_image_17 : decode cX10_image 17 = .ok (.iload_n 2, 1) := by decide +kernel
theorem dX10_image_18 : decode cX10_image 18 = .ok (.sipush 1875, 3) := by decide +kernel
theorem dX10_image_21 : decode cX10_image 21 = .ok (.if_icmp .ge 27, 3) := by decide +kernel
theorem dX10_image_24 : decode cX10_image 24 = .ok (.aload_n 0, 1) := by decide +kernel
theorem dX10_image_25 : decode cX10_image 25 = .ok (.getfield 13, 3) := by decide +kernel
theorem dX10_image_28 : decode cX10_image 28 = .ok (.sipush 1875, 3) := by decide +kernel
theorem dX10_image_31 : decode cX10_image 31 = .ok (.iload_n 1, 1) := by decide +kernel
theorem dX10_image_32 : decode cX10_image 32 = .ok (.imul, 1) := by decide +kernel
theorem dX10_image_33 : decode cX10_image 33 = .ok (.iload_n 2, 1) := by decide +kernel
theorem dX10_image_34 : decode cX10_image 34 = .ok (.iadd, 1) := by decide +kernel
theorem dX10_image_35 : decode cX10_image 35 = .ok (.aload_n 0, 1) := by decide +kernel
theorem dX10_image_36 : decode cX10_image 36 = .ok (.getfield 9, 3) := by decide +kernel
theorem dX10_image_39 : decode cX10_image 39 = .ok (.iload_n 2, 1) := by decide +kernel
theorem dX10_image_40 : decode cX10_image 40 = .ok (.iaload, 1) := by decide +kernel
theorem dX10_image_41 : decode cX10_image 41 = .ok (.iastore, 1) := by decide +kernel
theorem dX10_image_42 : decode cX10_image 42 = .ok (.iinc 2 1, 3) := by decide +kernel
theorem dX10_image_45 : decode cX10_image 45 = .ok (.goto (-28), 3) := by decide +kernel
theorem dX10_image_48 : decode cX10_image 48 = .ok (.aload_n 0, 1) := by decide +kernel
theorem dX10_image_49 : decode cX10_image 49 = .ok (.getfield 16, 3) := by decide +kernel
theorem dX10_image_52 : decode cX10_image 52 = .ok (.iload_n 1, 1) := by decide +kernel
theorem dX10_image_53 : decode cX10_image 53 = .ok (.iconst 1, 1) := by decide +kernel
theorem dX10_image_54 : decode cX10_image 54 = .ok (.bastore, 1) := by decide +kernel
theorem dX10_image_55 : decode cX10_image 55 = .ok (.iconst 0, 1) := by decide +kernel
theorem dX10_image_56 : decode cX10_image 56 = .ok (.ireturn, 1) := by decide +kernel
def uX10_image : List Cond := .code yX10_image cX10_image 3 (some .int) :: ([.constantLong RX10 80 (2), .methodLink RX10 82 yX10_in, .static yX10_in, .initialized RX10, .code yX10_in cX10_in 6 (some .boolean), .fieldLink RX10 16 "LuckyTicketModel" "hasImage" "[Z", .fieldLink RX10 13 "LuckyTicketModel" "images" "[I", .fieldLink RX10 9 "LuckyTicketModel" "world" "[I"] ++ wsX100)
theorem iX10_image_X10 : ∀ w ∈ wsX100, w ∈ uX10_image := fun _ h => List.mem_cons_of_mem _ (List.mem_append_right _ h)
set_option maxRecDepth 20000 in
theorem gX10_image__X10_in_S82 : GoodIn uX10_image (va_wsS RX10 82 yX10_in uX10_in) := goodIn_p _ [5] rfl (by decide +kernel)
set_option maxHeartbeats 4000000 in
set_option maxRecDepth 100000 in
theorem kX10_image (l : Launch) (dC : Nat → ClassId) (dI : Nat → Nat → Nat) (h0 : Nat) (m_world : Nat) (m_images : Nat) (m_hasImage : Nat) (m_luck : Nat) (m_tape : Nat) (m_five : Nat) (m_fresh : Nat) (m_waits : Nat) (m_figures : Nat) (m_pile : Nat) (m_times : Nat) (m_far : Nat) (m_queue : Nat) (m_months : Nat) (m_ways : Nat) (m_waysOn : Nat) (m_many : Nat) (m_width : Nat) (m_numbers : Nat) (m_moving : Nat) (cI : ClassId) (cI2 : ClassId) (cZ : ClassId) (gf : Nat → Int32) (a1 : Int32) (sz : Nat) : Met l yX10_image uX10_image ({ frames := 1, cells := 0, slots := 0, locals := 25 }) (va_Pc [.ref h0, .int a1] (hw (dC, dI) vwCl [(h0, .inr (8, [.int 0, .ref m_world, .ref m_images, .ref m_hasImage, .ref m_luck, .ref m_tape, .int 0, .ref m_five, .int 0, .int 0, .int 0, .int 0, .int 0, .int 0, .int (-1), .ref m_fresh, .ref m_waits, .int 0, .int 0, .int 0, .ref m_figures, .ref m_pile, .long 0, .ref m_times, .ref m_far, .ref m_queue, .ref m_months, .ref m_ways, .ref m_waysOn, .ref m_many, .ref m_width, .ref m_numbers, .ref m_moving])), (m_world, .inl (cI, 1875, .inl (fun _ => 0))), (m_images, .inl (cI2, 5625, .inl gf)), (m_hasImage, .inl (cZ, 3, .inl (fun _ => 0)))] [(cI, .int), (cI2, .int), (cZ, .boolean)] sz)) (va_Qi (fun (r : Int32) (_ : Unit) => r = im3 a1) (fun (_ : Unit) t => va_P (dC, dI) vwCl [] t.heap ∧ va_K (dC, dI) vwCl [] t ∧ va_D (va_A [(h0, .inr (8, [.int 0, .ref m_world, .ref m_images, .ref m_hasImage, .ref m_luck, .ref m_tape, .int 0, .ref m_five, .int 0, .int 0, .int 0, .int 0, .int 0, .int 0, .int (-1), .ref m_fresh, .ref m_waits, .int 0, .int 0, .int 0, .ref m_figures, .ref m_pile, .long 0, .ref m_times, .ref m_far, .ref m_queue, .ref m_months, .ref m_ways, .ref m_waysOn, .ref m_many, .ref m_width, .ref m_numbers, .ref m_moving])), (m_world, .inl (cI, 1875, .inl (fun _ => 0))), (m_images, .inl (cI2, 5625, .inl gf)), (m_hasImage, .inl (cZ, 3, .inl (fun _ => 0)))] sz) []) (va_A [(h0, .inr (8, [.int 0, .ref m_world, .ref m_images, .ref m_hasImage, .ref m_luck, .ref m_tape, .int 0, .ref m_five, .int 0, .int 0, .int 0, .int 0, .int 0, .int 0, .int (-1), .ref m_fresh, .ref m_waits, .int 0, .int 0, .int 0, .ref m_figures, .ref m_pile, .long 0, .ref m_times, .ref m_far, .ref m_queue, .ref m_months, .ref m_ways, .ref m_waysOn, .ref m_many, .ref m_width, .ref m_numbers, .ref m_moving])), (m_world, .inl (cI, 1875, .inl (fun _ => 0))), (m_images, .inl (cI2, 5625, .inl gf)), (m_hasImage, .inl (cZ, 3, .inl (fun _ => 0)))] sz)) 0 0 (va_A [(h0, .inr (8, [.int 0, .ref m_world, .ref m_images, .ref m_hasImage, .ref m_luck, .ref m_tape, .int 0, .ref m_five, .int 0, .int 0, .int 0, .int 0, .int 0, .int 0, .int (-1), .ref m_fresh, .ref m_waits, .int 0, .int 0, .int 0, .ref m_figures, .ref m_pile, .long 0, .ref m_times, .ref m_far, .ref m_queue, .ref m_months, .ref m_ways, .ref m_waysOn, .ref m_many, .ref m_width, .ref m_numbers, .ref m_moving])), (m_world, .inl (cI, 1875, .inl (fun _ => 0))), (m_images, .inl (cI2, 5625, .inl gf)), (m_hasImage, .inl (cZ, 3, .inl (fun _ => 0)))] sz) := by
  refine Met.ofW (cc := cX10_image) (maxL := 3) (ret := (some .int)) (by decide) rfl ?_
  intro p e s m args below meth c s₁ B hml hv
  obtain ⟨rfl, hsz, hP, hK, hD0, hN⟩ := hv
  have hx := B.exec
  have hb := B.bytes
  have hr := B.returns
  have hts := atoms_spec (ws := uX10_image) B.pre
  have hown : s.vm.findClass RX10 = some m.cls := findClass_of_methodNamed B.named
  have hlocks := B.notSynchronized
  subst hsz
  have hD := hD0.self (sz := s.heap.size)
  generalize hAe : va_A [(h0, .inr (8, [.int 0, .ref m_world, .ref m_images, .ref m_hasImage, .ref m_luck, .ref m_tape, .int 0, .ref m_five, .int 0, .int 0, .int 0, .int 0, .int 0, .int 0, .int (-1), .ref m_fresh, .ref m_waits, .int 0, .int 0, .int 0, .ref m_figures, .ref m_pile, .long 0, .ref m_times, .ref m_far, .ref m_queue, .ref m_months, .ref m_ways, .ref m_waysOn, .ref m_many, .ref m_width, .ref m_numbers, .ref m_moving])), (m_world, .inl (cI, 1875, .inl (fun _ => 0))), (m_images, .inl (cI2, 5625, .inl gf)), (m_hasImage, .inl (cZ, 3, .inl (fun _ => 0)))] s.heap.size = A at hD ⊢
  have hA : ∀ q : Nat, s.heap.size ≤ q → A q := fun q h => by rw [← hAe]; exact Or.inr h
  have hS : va_S A s.heap s.heap [] := va_S.rf
  have hP : va_P (dC, dI) vwCl [(h0, .inr (8, [.int 0, .ref m_world, .ref m_images, .ref m_hasImage, .ref m_luck, .ref m_tape, .int 0, .ref m_five, .int 0, .int 0, .int 0, .int 0, .int 0, .int 0, .int (-1), .ref m_fresh, .ref m_waits, .int 0, .int 0, .int 0, .ref m_figures, .ref m_pile, .long 0, .ref m_times, .ref m_far, .ref m_queue, .ref m_months, .ref m_ways, .ref m_waysOn, .ref m_many, .ref m_width, .ref m_numbers, .ref m_moving])), (m_world, .inl (cI, 1875, .inl (fun _ => 0))), (m_images, .inl (cI2, 5625, .inl gf)), (m_hasImage, .inl (cZ, 3, .inl (fun _ => 0)))] s.heap := hP
  have hl := lv_entry ([.ref h0, .int a1]) (n := 3) (Nat.le_of_ble_eq_true rfl)
  rw [lg_entry_eq]
  generalize (lg_sl ([.ref h0, .int a1]) ++ List.replicate (3 - (lg_sl ([.ref h0, .int a1])).length) Slot.unset).toArray = ls at hl ⊢
  have hl : lv_has ls 3 [(0, .ref h0), (1, .int a1)] := hl
  refine lv_iload_n hx hb dX10_image_0 rfl (lv_at hl 1 rfl) ?_
  refine lv_i2l (v := a1.toInt64) hx hb dX10_image_1 rfl ?_
  refine lv_lconst (v := 0) hx hb dX10_image_2 (by decide) ?_
  refine lv_ldc2 (v := 2) hx hb hown (hts (.constantLong RX10 80 (2)) (List.mem_of_getElem? (i := 1) rfl)) dX10_image_3 ?_
  refine vp_callSi (W.runS (As := [.long a1.toInt64, .long 0, .long 2]) (rest := []) ⟨hx, hb, hml, hown, hts⟩ (kX10_in l dC dI a1.toInt64 0 2) (va_cwS 3 hts gX10_image__X10_in_S82 rfl rfl rfl (by decide +kernel) ⟨lel 1 1 rfl, lel 25 25 rfl⟩) ⟨pn_fb, pn_use⟩ rfl rfl hl.1 rfl (lv_room (Nat.le_of_ble_eq_true rfl)) dX10_image_6 ⟨lel 0 0 rfl, lel 0 0 rfl⟩) (fun r_1 hr_1 => ?_)
  refine lv_if_ne (tgt := 15) hx hb dX10_image_9 (by decide) (fun c_2 => ?_) (fun c_2 => ?_)
  ·
    rcases wi_3 (fun e => c_2 (hr_1.trans ((inr_wi a1 0 2).trans e))) with rfl | rfl | rfl
    ·
      refine lv_iconst (v := 0) hx hb dX10_image_15 (by decide) ?_
      refine lv_istore_n (lv' := [(2, .int 0), (0, .ref h0), (1, .int 0)]) hx hb dX10_image_16 rfl hl (by decide) rfl (fun ls hl => ?_)
      refine loopW (σ := Nat × (Nat → Int32)) (fun v => 1875 - v.1) (fun v H locs ls => (v.1 ≤ 1875) ∧ va_P (dC, dI) vwCl [(h0, .inr (8, [.int 0, .ref m_world, .ref m_images, .ref m_hasImage, .ref m_luck, .ref m_tape, .int 0, .ref m_five, .int 0, .int 0, .int 0, .int 0, .int 0, .int 0, .int (-1), .ref m_fresh, .ref m_waits, .int 0, .int 0, .int 0, .ref m_figures, .ref m_pile, .long 0, .ref m_times, .ref m_far, .ref m_queue, .ref m_months, .ref m_ways, .ref m_waysOn, .ref m_many, .ref m_width, .ref m_numbers, .ref m_moving])), (m_world, .inl (cI, 1875, .inl (fun _ => 0))), (m_images, .inl (cI2, 5625, .inl v.2)), (m_hasImage, .inl (cZ, 3, .inl (fun _ => 0)))] H ∧ va_D A [(h0, .inr (8, [.int 0, .ref m_world, .ref m_images, .ref m_hasImage, .ref m_luck, .ref m_tape, .int 0, .ref m_five, .int 0, .int 0, .int 0, .int 0, .int 0, .int 0, .int (-1), .ref m_fresh, .ref m_waits, .int 0, .int 0, .int 0, .ref m_figures, .ref m_pile, .long 0, .ref m_times, .ref m_far, .ref m_queue, .ref m_months, .ref m_ways, .ref m_waysOn, .ref m_many, .ref m_width, .ref m_numbers, .ref m_moving])), (m_world, .inl (cI, 1875, .inl (fun _ => 0))), (m_images, .inl (cI2, 5625, .inl v.2)), (m_hasImage, .inl (cZ, 3, .inl (fun _ => 0)))] ∧ va_S A s.heap H locs ∧ lv_has ls 3 [(2, .int (nI v.1)), (0, .ref h0), (1, .int 0)]) (fun v H locs ls hI ih => ?_) (0, gf) ⟨(show 0 ≤ 1875 from Nat.zero_le _), hP, hD, hS, hl⟩
      obtain ⟨i, f1⟩ := v
      obtain ⟨hi, hP, hD, hS, hl⟩ := hI
      have hi : i ≤ 1875 := hi
      have hP : va_P (dC, dI) vwCl [(h0, .inr (8, [.int 0, .ref m_world, .ref m_images, .ref m_hasImage, .ref m_luck, .ref m_tape, .int 0, .ref m_five, .int 0, .int 0, .int 0, .int 0, .int 0, .int 0, .int (-1), .ref m_fresh, .ref m_waits, .int 0, .int 0, .int 0, .ref m_figures, .ref m_pile, .long 0, .ref m_times, .ref m_far, .ref m_queue, .ref m_months, .ref m_ways, .ref m_waysOn, .ref m_many, .ref m_width, .ref m_numbers, .ref m_moving])), (m_world, .inl (cI, 1875, .inl (fun _ => 0))), (m_images, .inl (cI2, 5625, .inl f1)), (m_hasImage, .inl (cZ, 3, .inl (fun _ => 0)))] H := hP
      have hD : va_D A [(h0, .inr (8, [.int 0, .ref m_world, .ref m_images, .ref m_hasImage, .ref m_luck, .ref m_tape, .int 0, .ref m_five, .int 0, .int 0, .int 0, .int 0, .int 0, .int 0, .int (-1), .ref m_fresh, .ref m_waits, .int 0, .int 0, .int 0, .ref m_figures, .ref m_pile, .long 0, .ref m_times, .ref m_far, .ref m_queue, .ref m_months, .ref m_ways, .ref m_waysOn, .ref m_many, .ref m_width, .ref m_numbers, .ref m_moving])), (m_world, .inl (cI, 1875, .inl (fun _ => 0))), (m_images, .inl (cI2, 5625, .inl f1)), (m_hasImage, .inl (cZ, 3, .inl (fun _ => 0)))] := hD
      have hl : lv_has ls 3 [(2, .int (nI i)), (0, .ref h0), (1, .int 0)] := hl
      refine lv_iload_n hx hb dX10_image_17 rfl (lv_at hl 0 rfl) ?_
      refine lv_sipush (v := 1875) hx hb dX10_image_18 (by decide) ?_
      refine lv_icmp_ge (tgt := 48) hx hb dX10_image_21 (by decide) (fun c_3 => ?_) (fun c_3 => ?_)
      ·
        have hge : 1875 ≤ i := (nI_leI (a := 1875) (b := i) (by decide) (by omega)).mp c_3
        refine lv_aload_n hx hb dX10_image_48 rfl (lv_at hl 1 rfl) ?_
        refine va_get (D := (dC, dI)) (ci := 8) (v := .ref m_hasImage) (C := RX10) (T := TX10) (N := 33) hx hb hts iX10_image_X10 hown hK hP 0 rfl rfl 3 (by decide) (hts (.fieldLink RX10 16 "LuckyTicketModel" "hasImage" "[Z") (List.mem_of_getElem? (i := 6) rfl)) (fun _ h9 => h9) rfl dX10_image_49 ?_
        refine lv_iload_n hx hb dX10_image_52 rfl (lv_at hl 2 rfl) ?_
        refine lv_iconst (v := 1) hx hb dX10_image_53 (by decide) ?_
        refine va_zast hx hb hK hP hD hS 3 2 rfl rfl (vp_in_lit (by decide)) dX10_image_54 (fun H locs hP hD hS => ?_)
        have hP : va_P (dC, dI) vwCl [(h0, .inr (8, [.int 0, .ref m_world, .ref m_images, .ref m_hasImage, .ref m_luck, .ref m_tape, .int 0, .ref m_five, .int 0, .int 0, .int 0, .int 0, .int 0, .int 0, .int (-1), .ref m_fresh, .ref m_waits, .int 0, .int 0, .int 0, .ref m_figures, .ref m_pile, .long 0, .ref m_times, .ref m_far, .ref m_queue, .ref m_months, .ref m_ways, .ref m_waysOn, .ref m_many, .ref m_width, .ref m_numbers, .ref m_moving])), (m_world, .inl (cI, 1875, .inl (fun _ => 0))), (m_images, .inl (cI2, 5625, .inl f1)), (m_hasImage, .inl (cZ, 3, .inl (upd (fun _ => 0) (0 : Int32).toNatClampNeg (vp_nar .boolean 1))))] H := hP
        have hD : va_D A [(h0, .inr (8, [.int 0, .ref m_world, .ref m_images, .ref m_hasImage, .ref m_luck, .ref m_tape, .int 0, .ref m_five, .int 0, .int 0, .int 0, .int 0, .int 0, .int 0, .int (-1), .ref m_fresh, .ref m_waits, .int 0, .int 0, .int 0, .ref m_figures, .ref m_pile, .long 0, .ref m_times, .ref m_far, .ref m_queue, .ref m_months, .ref m_ways, .ref m_waysOn, .ref m_many, .ref m_width, .ref m_numbers, .ref m_moving])), (m_world, .inl (cI, 1875, .inl (fun _ => 0))), (m_images, .inl (cI2, 5625, .inl f1)), (m_hasImage, .inl (cZ, 3, .inl (upd (fun _ => 0) (0 : Int32).toNatClampNeg (vp_nar .boolean 1))))] := hD
        refine lv_iconst (v := 0) hx hb dX10_image_55 (by decide) ?_
        have hP9 := hP.sub (ws' := []) [] rfl
        have hD9 := hD.sub (ws' := []) [] (by decide) rfl
        have hK9 := hK.sub (tys' := []) [] rfl
        exact W.iret (v := 0) hx hb hr (fun t ht hW => ⟨⟨0, (), rfl, (by decide), by rw [ht]; exact hP9, va_K.moved hW.alike hK9, hD9⟩, hS.F ht⟩) hS.2.2 dX10_image_56
      ·
        have hlt : i < 1875 := Nat.lt_of_not_le (fun q => c_3 ((nI_leI (a := 1875) (b := i) (by decide) (by omega)).mpr q))
        refine lv_aload_n hx hb dX10_image_24 rfl (lv_at hl 1 rfl) ?_
        refine va_get (D := (dC, dI)) (ci := 8) (v := .ref m_images) (C := RX10) (T := TX10) (N := 33) hx hb hts iX10_image_X10 hown hK hP 0 rfl rfl 2 (by decide) (hts (.fieldLink RX10 13 "LuckyTicketModel" "images" "[I") (List.mem_of_getElem? (i := 7) rfl)) (fun _ h9 => h9) rfl dX10_image_25 ?_
        refine lv_sipush (v := 1875) hx hb dX10_image_28 (by decide) ?_
        refine lv_iload_n hx hb dX10_image_31 rfl (lv_at hl 2 rfl) ?_
        refine lv_imul hx hb dX10_image_32 ?_
        refine lv_topi (fun z_4 ez_4 => ?_)
        obtain rfl : z_4 = 0 := ez_4.trans (by decide)
        refine lv_iload_n hx hb dX10_image_33 rfl (lv_at hl 0 rfl) ?_
        refine lv_iadd hx hb dX10_image_34 ?_
        refine lv_topi (fun z_5 ez_5 => ?_)
        refine lv_aload_n hx hb dX10_image_35 rfl (lv_at hl 1 rfl) ?_
        refine va_get (D := (dC, dI)) (ci := 8) (v := .ref m_world) (C := RX10) (T := TX10) (N := 33) hx hb hts iX10_image_X10 hown hK hP 0 rfl rfl 1 (by decide) (hts (.fieldLink RX10 9 "LuckyTicketModel" "world" "[I") (List.mem_of_getElem? (i := 8) rfl)) (fun _ h9 => h9) rfl dX10_image_36 ?_
        refine lv_iload_n hx hb dX10_image_39 rfl (lv_at hl 0 rfl) ?_
        refine va_iald hx hb hK hP 1 0 rfl rfl (vp_in_nI hlt (by decide)) dX10_image_40 ?_
        refine lv_topi (fun z_6 ez_6 => ?_)
        obtain rfl : z_6 = 0 := ez_6
        refine va_iast hx hb hK hP hD hS 2 1 rfl rfl (by rw [ez_5]; exact (nI_add 0 i) ▸ vp_in_nI (n := 0 + i) (by omega) (by decide)) dX10_image_41 (fun H locs hP hD hS => ?_)
        have hP : va_P (dC, dI) vwCl [(h0, .inr (8, [.int 0, .ref m_world, .ref m_images, .ref m_hasImage, .ref m_luck, .ref m_tape, .int 0, .ref m_five, .int 0, .int 0, .int 0, .int 0, .int 0, .int 0, .int (-1), .ref m_fresh, .ref m_waits, .int 0, .int 0, .int 0, .ref m_figures, .ref m_pile, .long 0, .ref m_times, .ref m_far, .ref m_queue, .ref m_months, .ref m_ways, .ref m_waysOn, .ref m_many, .ref m_width, .ref m_numbers, .ref m_moving])), (m_world, .inl (cI, 1875, .inl (fun _ => 0))), (m_images, .inl (cI2, 5625, .inl (upd f1 (z_5 : Int32).toNatClampNeg 0))), (m_hasImage, .inl (cZ, 3, .inl (fun _ => 0)))] H := hP
        have hD : va_D A [(h0, .inr (8, [.int 0, .ref m_world, .ref m_images, .ref m_hasImage, .ref m_luck, .ref m_tape, .int 0, .ref m_five, .int 0, .int 0, .int 0, .int 0, .int 0, .int 0, .int (-1), .ref m_fresh, .ref m_waits, .int 0, .int 0, .int 0, .ref m_figures, .ref m_pile, .long 0, .ref m_times, .ref m_far, .ref m_queue, .ref m_months, .ref m_ways, .ref m_waysOn, .ref m_many, .ref m_width, .ref m_numbers, .ref m_moving])), (m_world, .inl (cI, 1875, .inl (fun _ => 0))), (m_images, .inl (cI2, 5625, .inl (upd f1 (z_5 : Int32).toNatClampNeg 0))), (m_hasImage, .inl (cZ, 3, .inl (fun _ => 0)))] := hD
        obtain ⟨z_7, ez_7⟩ : ∃ y : Int32, y = nI i + 1 := ⟨_, rfl⟩
        refine lv_iinc (v := z_7) (lv' := [(2, .int z_7), (0, .ref h0), (1, .int 0)]) hx hb dX10_image_42 hl (k := 0) rfl (by rw [ez_7]; rfl) (by decide) rfl (fun ls hl => ?_)
        refine lv_goto (tgt := 17) hx hb dX10_image_45 (by decide) ?_
        obtain rfl : z_7 = nI (i + 1) := ez_7.trans (nI_1 i)
        exact ih (i + 1, upd f1 (z_5 : Int32).toNatClampNeg 0) _ _ _ ⟨(show (i + 1) ≤ 1875 from hlt), hP, hD, hS, lv_sub hl [0, 1, 2] rfl⟩ (show 1875 - (i + 1) < 1875 - i by omega)
    ·
      refine lv_iconst (v := 0) hx hb dX10_image_15 (by decide) ?_
      refine lv_istore_n (lv' := [(2, .int 0), (0, .ref h0), (1, .int 1)]) hx hb dX10_image_16 rfl hl (by decide) rfl (fun ls hl => ?_)
      refine loopW (σ := Nat × (Nat → Int32)) (fun v => 1875 - v.1) (fun v H locs ls => (v.1 ≤ 1875) ∧ va_P (dC, dI) vwCl [(h0, .inr (8, [.int 0, .ref m_world, .ref m_images, .ref m_hasImage, .ref m_luck, .ref m_tape, .int 0, .ref m_five, .int 0, .int 0, .int 0, .int 0, .int 0, .int 0, .int (-1), .ref m_fresh, .ref m_waits, .int 0, .int 0, .int 0, .ref m_figures, .ref m_pile, .long 0, .ref m_times, .ref m_far, .ref m_queue, .ref m_months, .ref m_ways, .ref m_waysOn, .ref m_many, .ref m_width, .ref m_numbers, .ref m_moving])), (m_world, .inl (cI, 1875, .inl (fun _ => 0))), (m_images, .inl (cI2, 5625, .inl v.2)), (m_hasImage, .inl (cZ, 3, .inl (fun _ => 0)))] H ∧ va_D A [(h0, .inr (8, [.int 0, .ref m_world, .ref m_images, .ref m_hasImage, .ref m_luck, .ref m_tape, .int 0, .ref m_five, .int 0, .int 0, .int 0, .int 0, .int 0, .int 0, .int (-1), .ref m_fresh, .ref m_waits, .int 0, .int 0, .int 0, .ref m_figures, .ref m_pile, .long 0, .ref m_times, .ref m_far, .ref m_queue, .ref m_months, .ref m_ways, .ref m_waysOn, .ref m_many, .ref m_width, .ref m_numbers, .ref m_moving])), (m_world, .inl (cI, 1875, .inl (fun _ => 0))), (m_images, .inl (cI2, 5625, .inl v.2)), (m_hasImage, .inl (cZ, 3, .inl (fun _ => 0)))] ∧ va_S A s.heap H locs ∧ lv_has ls 3 [(2, .int (nI v.1)), (0, .ref h0), (1, .int 1)]) (fun v H locs ls hI ih => ?_) (0, gf) ⟨(show 0 ≤ 1875 from Nat.zero_le _), hP, hD, hS, hl⟩
      obtain ⟨i, f1⟩ := v
      obtain ⟨hi, hP, hD, hS, hl⟩ := hI
      have hi : i ≤ 1875 := hi
      have hP : va_P (dC, dI) vwCl [(h0, .inr (8, [.int 0, .ref m_world, .ref m_images, .ref m_hasImage, .ref m_luck, .ref m_tape, .int 0, .ref m_five, .int 0, .int 0, .int 0, .int 0, .int 0, .int 0, .int (-1), .ref m_fresh, .ref m_waits, .int 0, .int 0, .int 0, .ref m_figures, .ref m_pile, .long 0, .ref m_times, .ref m_far, .ref m_queue, .ref m_months, .ref m_ways, .ref m_waysOn, .ref m_many, .ref m_width, .ref m_numbers, .ref m_moving])), (m_world, .inl (cI, 1875, .inl (fun _ => 0))), (m_images, .inl (cI2, 5625, .inl f1)), (m_hasImage, .inl (cZ, 3, .inl (fun _ => 0)))] H := hP
      have hD : va_D A [(h0, .inr (8, [.int 0, .ref m_world, .ref m_images, .ref m_hasImage, .ref m_luck, .ref m_tape, .int 0, .ref m_five, .int 0, .int 0, .int 0, .int 0, .int 0, .int 0, .int (-1), .ref m_fresh, .ref m_waits, .int 0, .int 0, .int 0, .ref m_figures, .ref m_pile, .long 0, .ref m_times, .ref m_far, .ref m_queue, .ref m_months, .ref m_ways, .ref m_waysOn, .ref m_many, .ref m_width, .ref m_numbers, .ref m_moving])), (m_world, .inl (cI, 1875, .inl (fun _ => 0))), (m_images, .inl (cI2, 5625, .inl f1)), (m_hasImage, .inl (cZ, 3, .inl (fun _ => 0)))] := hD
      have hl : lv_has ls 3 [(2, .int (nI i)), (0, .ref h0), (1, .int 1)] := hl
      refine lv_iload_n hx hb dX10_image_17 rfl (lv_at hl 0 rfl) ?_
      refine lv_sipush (v := 1875) hx hb dX10_image_18 (by decide) ?_
      refine lv_icmp_ge (tgt := 48) hx hb dX10_image_21 (by decide) (fun c_8 => ?_) (fun c_8 => ?_)
      ·
        have hge : 1875 ≤ i := (nI_leI (a := 1875) (b := i) (by decide) (by omega)).mp c_8
        refine lv_aload_n hx hb dX10_image_48 rfl (lv_at hl 1 rfl) ?_
        refine va_get (D := (dC, dI)) (ci := 8) (v := .ref m_hasImage) (C := RX10) (T := TX10) (N := 33) hx hb hts iX10_image_X10 hown hK hP 0 rfl rfl 3 (by decide) (hts (.fieldLink RX10 16 "LuckyTicketModel" "hasImage" "[Z") (List.mem_of_getElem? (i := 6) rfl)) (fun _ h9 => h9) rfl dX10_image_49 ?_
        refine lv_iload_n hx hb dX10_image_52 rfl (lv_at hl 2 rfl) ?_
        refine lv_iconst (v := 1) hx hb dX10_image_53 (by decide) ?_
        refine va_zast hx hb hK hP hD hS 3 2 rfl rfl (vp_in_lit (by decide)) dX10_image_54 (fun H locs hP hD hS => ?_)
        have hP : va_P (dC, dI) vwCl [(h0, .inr (8, [.int 0, .ref m_world, .ref m_images, .ref m_hasImage, .ref m_luck, .ref m_tape, .int 0, .ref m_five, .int 0, .int 0, .int 0, .int 0, .int 0, .int 0, .int (-1), .ref m_fresh, .ref m_waits, .int 0, .int 0, .int 0, .ref m_figures, .ref m_pile, .long 0, .ref m_times, .ref m_far, .ref m_queue, .ref m_months, .ref m_ways, .ref m_waysOn, .ref m_many, .ref m_width, .ref m_numbers, .ref m_moving])), (m_world, .inl (cI, 1875, .inl (fun _ => 0))), (m_images, .inl (cI2, 5625, .inl f1)), (m_hasImage, .inl (cZ, 3, .inl (upd (fun _ => 0) (1 : Int32).toNatClampNeg (vp_nar .boolean 1))))] H := hP
        have hD : va_D A [(h0, .inr (8, [.int 0, .ref m_world, .ref m_images, .ref m_hasImage, .ref m_luck, .ref m_tape, .int 0, .ref m_five, .int 0, .int 0, .int 0, .int 0, .int 0, .int 0, .int (-1), .ref m_fresh, .ref m_waits, .int 0, .int 0, .int 0, .ref m_figures, .ref m_pile, .long 0, .ref m_times, .ref m_far, .ref m_queue, .ref m_months, .ref m_ways, .ref m_waysOn, .ref m_many, .ref m_width, .ref m_numbers, .ref m_moving])), (m_world, .inl (cI, 1875, .inl (fun _ => 0))), (m_images, .inl (cI2, 5625, .inl f1)), (m_hasImage, .inl (cZ, 3, .inl (upd (fun _ => 0) (1 : Int32).toNatClampNeg (vp_nar .boolean 1))))] := hD
        refine lv_iconst (v := 0) hx hb dX10_image_55 (by decide) ?_
        have hP9 := hP.sub (ws' := []) [] rfl
        have hD9 := hD.sub (ws' := []) [] (by decide) rfl
        have hK9 := hK.sub (tys' := []) [] rfl
        exact W.iret (v := 0) hx hb hr (fun t ht hW => ⟨⟨0, (), rfl, (by decide), by rw [ht]; exact hP9, va_K.moved hW.alike hK9, hD9⟩, hS.F ht⟩) hS.2.2 dX10_image_56
      ·
        have hlt : i < 1875 := Nat.lt_of_not_le (fun q => c_8 ((nI_leI (a := 1875) (b := i) (by decide) (by omega)).mpr q))
        refine lv_aload_n hx hb dX10_image_24 rfl (lv_at hl 1 rfl) ?_
        refine va_get (D := (dC, dI)) (ci := 8) (v := .ref m_images) (C := RX10) (T := TX10) (N := 33) hx hb hts iX10_image_X10 hown hK hP 0 rfl rfl 2 (by decide) (hts (.fieldLink RX10 13 "LuckyTicketModel" "images" "[I") (List.mem_of_getElem? (i := 7) rfl)) (fun _ h9 => h9) rfl dX10_image_25 ?_
        refine lv_sipush (v := 1875) hx hb dX10_image_28 (by decide) ?_
        refine lv_iload_n hx hb dX10_image_31 rfl (lv_at hl 2 rfl) ?_
        refine lv_imul hx hb dX10_image_32 ?_
        refine lv_topi (fun z_9 ez_9 => ?_)
        obtain rfl : z_9 = 1875 := ez_9.trans (by decide)
        refine lv_iload_n hx hb dX10_image_33 rfl (lv_at hl 0 rfl) ?_
        refine lv_iadd hx hb dX10_image_34 ?_
        refine lv_topi (fun z_10 ez_10 => ?_)
        refine lv_aload_n hx hb dX10_image_35 rfl (lv_at hl 1 rfl) ?_
        refine va_get (D := (dC, dI)) (ci := 8) (v := .ref m_world) (C := RX10) (T := TX10) (N := 33) hx hb hts iX10_image_X10 hown hK hP 0 rfl rfl 1 (by decide) (hts (.fieldLink RX10 9 "LuckyTicketModel" "world" "[I") (List.mem_of_getElem? (i := 8) rfl)) (fun _ h9 => h9) rfl dX10_image_36 ?_
        refine lv_iload_n hx hb dX10_image_39 rfl (lv_at hl 0 rfl) ?_
        refine va_iald hx hb hK hP 1 0 rfl rfl (vp_in_nI hlt (by decide)) dX10_image_40 ?_
        refine lv_topi (fun z_11 ez_11 => ?_)
        obtain rfl : z_11 = 0 := ez_11
        refine va_iast hx hb hK hP hD hS 2 1 rfl rfl (by rw [ez_10]; exact (nI_add 1875 i) ▸ vp_in_nI (n := 1875 + i) (by omega) (by decide)) dX10_image_41 (fun H locs hP hD hS => ?_)
        have hP : va_P (dC, dI) vwCl [(h0, .inr (8, [.int 0, .ref m_world, .ref m_images, .ref m_hasImage, .ref m_luck, .ref m_tape, .int 0, .ref m_five, .int 0, .int 0, .int 0, .int 0, .int 0, .int 0, .int (-1), .ref m_fresh, .ref m_waits, .int 0, .int 0, .int 0, .ref m_figures, .ref m_pile, .long 0, .ref m_times, .ref m_far, .ref m_queue, .ref m_months, .ref m_ways, .ref m_waysOn, .ref m_many, .ref m_width, .ref m_numbers, .ref m_moving])), (m_world, .inl (cI, 1875, .inl (fun _ => 0))), (m_images, .inl (cI2, 5625, .inl (upd f1 (z_10 : Int32).toNatClampNeg 0))), (m_hasImage, .inl (cZ, 3, .inl (fun _ => 0)))] H := hP
        have hD : va_D A [(h0, .inr (8, [.int 0, .ref m_world, .ref m_images, .ref m_hasImage, .ref m_luck, .ref m_tape, .int 0, .ref m_five, .int 0, .int 0, .int 0, .int 0, .int 0, .int 0, .int (-1), .ref m_fresh, .ref m_waits, .int 0, .int 0, .int 0, .ref m_figures, .ref m_pile, .long 0, .ref m_times, .ref m_far, .ref m_queue, .ref m_months, .ref m_ways, .ref m_waysOn, .ref m_many, .ref m_width, .ref m_numbers, .ref m_moving])), (m_world, .inl (cI, 1875, .inl (fun _ => 0))), (m_images, .inl (cI2, 5625, .inl (upd f1 (z_10 : Int32).toNatClampNeg 0))), (m_hasImage, .inl (cZ, 3, .inl (fun _ => 0)))] := hD
        obtain ⟨z_12, ez_12⟩ : ∃ y : Int32, y = nI i + 1 := ⟨_, rfl⟩
        refine lv_iinc (v := z_12) (lv' := [(2, .int z_12), (0, .ref h0), (1, .int 1)]) hx hb dX10_image_42 hl (k := 0) rfl (by rw [ez_12]; rfl) (by decide) rfl (fun ls hl => ?_)
        refine lv_goto (tgt := 17) hx hb dX10_image_45 (by decide) ?_
        obtain rfl : z_12 = nI (i + 1) := ez_12.trans (nI_1 i)
        exact ih (i + 1, upd f1 (z_10 : Int32).toNatClampNeg 0) _ _ _ ⟨(show (i + 1) ≤ 1875 from hlt), hP, hD, hS, lv_sub hl [0, 1, 2] rfl⟩ (show 1875 - (i + 1) < 1875 - i by omega)
    ·
      refine lv_iconst (v := 0) hx hb dX10_image_15 (by decide) ?_
      refine lv_istore_n (lv' := [(2, .int 0), (0, .ref h0), (1, .int 2)]) hx hb dX10_image_16 rfl hl (by decide) rfl (fun ls hl => ?_)
      refine loopW (σ := Nat × (Nat → Int32)) (fun v => 1875 - v.1) (fun v H locs ls => (v.1 ≤ 1875) ∧ va_P (dC, dI) vwCl [(h0, .inr (8, [.int 0, .ref m_world, .ref m_images, .ref m_hasImage, .ref m_luck, .ref m_tape, .int 0, .ref m_five, .int 0, .int 0, .int 0, .int 0, .int 0, .int 0, .int (-1), .ref m_fresh, .ref m_waits, .int 0, .int 0, .int 0, .ref m_figures, .ref m_pile, .long 0, .ref m_times, .ref m_far, .ref m_queue, .ref m_months, .ref m_ways, .ref m_waysOn, .ref m_many, .ref m_width, .ref m_numbers, .ref m_moving])), (m_world, .inl (cI, 1875, .inl (fun _ => 0))), (m_images, .inl (cI2, 5625, .inl v.2)), (m_hasImage, .inl (cZ, 3, .inl (fun _ => 0)))] H ∧ va_D A [(h0, .inr (8, [.int 0, .ref m_world, .ref m_images, .ref m_hasImage, .ref m_luck, .ref m_tape, .int 0, .ref m_five, .int 0, .int 0, .int 0, .int 0, .int 0, .int 0, .int (-1), .ref m_fresh, .ref m_waits, .int 0, .int 0, .int 0, .ref m_figures, .ref m_pile, .long 0, .ref m_times, .ref m_far, .ref m_queue, .ref m_months, .ref m_ways, .ref m_waysOn, .ref m_many, .ref m_width, .ref m_numbers, .ref m_moving])), (m_world, .inl (cI, 1875, .inl (fun _ => 0))), (m_images, .inl (cI2, 5625, .inl v.2)), (m_hasImage, .inl (cZ, 3, .inl (fun _ => 0)))] ∧ va_S A s.heap H locs ∧ lv_has ls 3 [(2, .int (nI v.1)), (0, .ref h0), (1, .int 2)]) (fun v H locs ls hI ih => ?_) (0, gf) ⟨(show 0 ≤ 1875 from Nat.zero_le _), hP, hD, hS, hl⟩
      obtain ⟨i, f1⟩ := v
      obtain ⟨hi, hP, hD, hS, hl⟩ := hI
      have hi : i ≤ 1875 := hi
      have hP : va_P (dC, dI) vwCl [(h0, .inr (8, [.int 0, .ref m_world, .ref m_images, .ref m_hasImage, .ref m_luck, .ref m_tape, .int 0, .ref m_five, .int 0, .int 0, .int 0, .int 0, .int 0, .int 0, .int (-1), .ref m_fresh, .ref m_waits, .int 0, .int 0, .int 0, .ref m_figures, .ref m_pile, .long 0, .ref m_times, .ref m_far, .ref m_queue, .ref m_months, .ref m_ways, .ref m_waysOn, .ref m_many, .ref m_width, .ref m_numbers, .ref m_moving])), (m_world, .inl (cI, 1875, .inl (fun _ => 0))), (m_images, .inl (cI2, 5625, .inl f1)), (m_hasImage, .inl (cZ, 3, .inl (fun _ => 0)))] H := hP
      have hD : va_D A [(h0, .inr (8, [.int 0, .ref m_world, .ref m_images, .ref m_hasImage, .ref m_luck, .ref m_tape, .int 0, .ref m_five, .int 0, .int 0, .int 0, .int 0, .int 0, .int 0, .int (-1), .ref m_fresh, .ref m_waits, .int 0, .int 0, .int 0, .ref m_figures, .ref m_pile, .long 0, .ref m_times, .ref m_far, .ref m_queue, .ref m_months, .ref m_ways, .ref m_waysOn, .ref m_many, .ref m_width, .ref m_numbers, .ref m_moving])), (m_world, .inl (cI, 1875, .inl (fun _ => 0))), (m_images, .inl (cI2, 5625, .inl f1)), (m_hasImage, .inl (cZ, 3, .inl (fun _ => 0)))] := hD
      have hl : lv_has ls 3 [(2, .int (nI i)), (0, .ref h0), (1, .int 2)] := hl
      refine lv_iload_n hx hb dX10_image_17 rfl (lv_at hl 0 rfl) ?_
      refine lv_sipush (v := 1875) hx hb dX10_image_18 (by decide) ?_
      refine lv_icmp_ge (tgt := 48) hx hb dX10_image_21 (by decide) (fun c_13 => ?_) (fun c_13 => ?_)
      ·
        have hge : 1875 ≤ i := (nI_leI (a := 1875) (b := i) (by decide) (by omega)).mp c_13
        refine lv_aload_n hx hb dX10_image_48 rfl (lv_at hl 1 rfl) ?_
        refine va_get (D := (dC, dI)) (ci := 8) (v := .ref m_hasImage) (C := RX10) (T := TX10) (N := 33) hx hb hts iX10_image_X10 hown hK hP 0 rfl rfl 3 (by decide) (hts (.fieldLink RX10 16 "LuckyTicketModel" "hasImage" "[Z") (List.mem_of_getElem? (i := 6) rfl)) (fun _ h9 => h9) rfl dX10_image_49 ?_
        refine lv_iload_n hx hb dX10_image_52 rfl (lv_at hl 2 rfl) ?_
        refine lv_iconst (v := 1) hx hb dX10_image_53 (by decide) ?_
        refine va_zast hx hb hK hP hD hS 3 2 rfl rfl (vp_in_lit (by decide)) dX10_image_54 (fun H locs hP hD hS => ?_)
        have hP : va_P (dC, dI) vwCl [(h0, .inr (8, [.int 0, .ref m_world, .ref m_images, .ref m_hasImage, .ref m_luck, .ref m_tape, .int 0, .ref m_five, .int 0, .int 0, .int 0, .int 0, .int 0, .int 0, .int (-1), .ref m_fresh, .ref m_waits, .int 0, .int 0, .int 0, .ref m_figures, .ref m_pile, .long 0, .ref m_times, .ref m_far, .ref m_queue, .ref m_months, .ref m_ways, .ref m_waysOn, .ref m_many, .ref m_width, .ref m_numbers, .ref m_moving])), (m_world, .inl (cI, 1875, .inl (fun _ => 0))), (m_images, .inl (cI2, 5625, .inl f1)), (m_hasImage, .inl (cZ, 3, .inl (upd (fun _ => 0) (2 : Int32).toNatClampNeg (vp_nar .boolean 1))))] H := hP
        have hD : va_D A [(h0, .inr (8, [.int 0, .ref m_world, .ref m_images, .ref m_hasImage, .ref m_luck, .ref m_tape, .int 0, .ref m_five, .int 0, .int 0, .int 0, .int 0, .int 0, .int 0, .int (-1), .ref m_fresh, .ref m_waits, .int 0, .int 0, .int 0, .ref m_figures, .ref m_pile, .long 0, .ref m_times, .ref m_far, .ref m_queue, .ref m_months, .ref m_ways, .ref m_waysOn, .ref m_many, .ref m_width, .ref m_numbers, .ref m_moving])), (m_world, .inl (cI, 1875, .inl (fun _ => 0))), (m_images, .inl (cI2, 5625, .inl f1)), (m_hasImage, .inl (cZ, 3, .inl (upd (fun _ => 0) (2 : Int32).toNatClampNeg (vp_nar .boolean 1))))] := hD
        refine lv_iconst (v := 0) hx hb dX10_image_55 (by decide) ?_
        have hP9 := hP.sub (ws' := []) [] rfl
        have hD9 := hD.sub (ws' := []) [] (by decide) rfl
        have hK9 := hK.sub (tys' := []) [] rfl
        exact W.iret (v := 0) hx hb hr (fun t ht hW => ⟨⟨0, (), rfl, (by decide), by rw [ht]; exact hP9, va_K.moved hW.alike hK9, hD9⟩, hS.F ht⟩) hS.2.2 dX10_image_56
      ·
        have hlt : i < 1875 := Nat.lt_of_not_le (fun q => c_13 ((nI_leI (a := 1875) (b := i) (by decide) (by omega)).mpr q))
        refine lv_aload_n hx hb dX10_image_24 rfl (lv_at hl 1 rfl) ?_
        refine va_get (D := (dC, dI)) (ci := 8) (v := .ref m_images) (C := RX10) (T := TX10) (N := 33) hx hb hts iX10_image_X10 hown hK hP 0 rfl rfl 2 (by decide) (hts (.fieldLink RX10 13 "LuckyTicketModel" "images" "[I") (List.mem_of_getElem? (i := 7) rfl)) (fun _ h9 => h9) rfl dX10_image_25 ?_
        refine lv_sipush (v := 1875) hx hb dX10_image_28 (by decide) ?_
        refine lv_iload_n hx hb dX10_image_31 rfl (lv_at hl 2 rfl) ?_
        refine lv_imul hx hb dX10_image_32 ?_
        refine lv_topi (fun z_14 ez_14 => ?_)
        obtain rfl : z_14 = 3750 := ez_14.trans (by decide)
        refine lv_iload_n hx hb dX10_image_33 rfl (lv_at hl 0 rfl) ?_
        refine lv_iadd hx hb dX10_image_34 ?_
        refine lv_topi (fun z_15 ez_15 => ?_)
        refine lv_aload_n hx hb dX10_image_35 rfl (lv_at hl 1 rfl) ?_
        refine va_get (D := (dC, dI)) (ci := 8) (v := .ref m_world) (C := RX10) (T := TX10) (N := 33) hx hb hts iX10_image_X10 hown hK hP 0 rfl rfl 1 (by decide) (hts (.fieldLink RX10 9 "LuckyTicketModel" "world" "[I") (List.mem_of_getElem? (i := 8) rfl)) (fun _ h9 => h9) rfl dX10_image_36 ?_
        refine lv_iload_n hx hb dX10_image_39 rfl (lv_at hl 0 rfl) ?_
        refine va_iald hx hb hK hP 1 0 rfl rfl (vp_in_nI hlt (by decide)) dX10_image_40 ?_
        refine lv_topi (fun z_16 ez_16 => ?_)
        obtain rfl : z_16 = 0 := ez_16
        refine va_iast hx hb hK hP hD hS 2 1 rfl rfl (by rw [ez_15]; exact (nI_add 3750 i) ▸ vp_in_nI (n := 3750 + i) (by omega) (by decide)) dX10_image_41 (fun H locs hP hD hS => ?_)
        have hP : va_P (dC, dI) vwCl [(h0, .inr (8, [.int 0, .ref m_world, .ref m_images, .ref m_hasImage, .ref m_luck, .ref m_tape, .int 0, .ref m_five, .int 0, .int 0, .int 0, .int 0, .int 0, .int 0, .int (-1), .ref m_fresh, .ref m_waits, .int 0, .int 0, .int 0, .ref m_figures, .ref m_pile, .long 0, .ref m_times, .ref m_far, .ref m_queue, .ref m_months, .ref m_ways, .ref m_waysOn, .ref m_many, .ref m_width, .ref m_numbers, .ref m_moving])), (m_world, .inl (cI, 1875, .inl (fun _ => 0))), (m_images, .inl (cI2, 5625, .inl (upd f1 (z_15 : Int32).toNatClampNeg 0))), (m_hasImage, .inl (cZ, 3, .inl (fun _ => 0)))] H := hP
        have hD : va_D A [(h0, .inr (8, [.int 0, .ref m_world, .ref m_images, .ref m_hasImage, .ref m_luck, .ref m_tape, .int 0, .ref m_five, .int 0, .int 0, .int 0, .int 0, .int 0, .int 0, .int (-1), .ref m_fresh, .ref m_waits, .int 0, .int 0, .int 0, .ref m_figures, .ref m_pile, .long 0, .ref m_times, .ref m_far, .ref m_queue, .ref m_months, .ref m_ways, .ref m_waysOn, .ref m_many, .ref m_width, .ref m_numbers, .ref m_moving])), (m_world, .inl (cI, 1875, .inl (fun _ => 0))), (m_images, .inl (cI2, 5625, .inl (upd f1 (z_15 : Int32).toNatClampNeg 0))), (m_hasImage, .inl (cZ, 3, .inl (fun _ => 0)))] := hD
        obtain ⟨z_17, ez_17⟩ : ∃ y : Int32, y = nI i + 1 := ⟨_, rfl⟩
        refine lv_iinc (v := z_17) (lv' := [(2, .int z_17), (0, .ref h0), (1, .int 2)]) hx hb dX10_image_42 hl (k := 0) rfl (by rw [ez_17]; rfl) (by decide) rfl (fun ls hl => ?_)
        refine lv_goto (tgt := 17) hx hb dX10_image_45 (by decide) ?_
        obtain rfl : z_17 = nI (i + 1) := ez_17.trans (nI_1 i)
        exact ih (i + 1, upd f1 (z_15 : Int32).toNatClampNeg 0) _ _ _ ⟨(show (i + 1) ≤ 1875 from hlt), hP, hD, hS, lv_sub hl [0, 1, 2] rfl⟩ (show 1875 - (i + 1) < 1875 - i by omega)
  ·
    refine lv_bipush (v := (-2)) hx hb dX10_image_12 (by decide) ?_
    have hP9 := hP.sub (ws' := []) [] rfl
    have hD9 := hD.sub (ws' := []) [] (by decide) rfl
    have hK9 := hK.sub (tys' := []) [] rfl
    exact W.iret (v := (-2)) hx hb hr (fun t ht hW => ⟨⟨(-2), (), rfl, (if_pos ((inr_wi a1 0 2).symm.trans (hr_1.symm.trans c_2))).symm, by rw [ht]; exact hP9, va_K.moved hW.alike hK9, hD9⟩, hS.F ht⟩) hS.2.2 dX10_image_14
theorem dX10_see_0 : decode cX10_see 0 = .ok (.iload_n 1, 1) := by decide +kernel
theorem dX10_see_1 : decode cX10_see 1 = .ok (.aload_n 0, 1) := by decide +kernel
theorem dX10_see_2 : decode cX10_see 2 = .ok (.getfield 100, 3) := by decide +kernel
theorem dX10_see_5 : decode cX10_see 5 = .ok (.if_icmp .ge 16, 3) := by decide +kernel
theorem dX10_see_21 : decode cX10_see 21 = .ok (.iconst (-1), 1) := by decide +kernel
theorem dX10_see_22 : decode cX10_see 22 = .ok (.ireturn, 1) := by decide +kernel
def uX10_see : List Cond := .code yX10_see cX10_see 2 (some .int) :: ([.fieldLink RX10 100 "LuckyTicketModel" "size" "I"] ++ wsX100)
theorem iX10_see_X10 : ∀ w ∈ wsX100, w ∈ uX10_see := fun _ h => List.mem_cons_of_mem _ (List.mem_append_right _ h)
set_option maxHeartbeats 4000000 in
set_option maxRecDepth 100000 in
theorem kX10_see (l : Launch) (dC : Nat → ClassId) (dI : Nat → Nat → Nat) (h0 : Nat) (m_world : Nat) (m_images : Nat) (m_hasImage : Nat) (m_luck : Nat) (m_tape : Nat) (m_five : Nat) (m_fresh : Nat) (m_waits : Nat) (m_figures : Nat) (m_pile : Nat) (m_times : Nat) (m_far : Nat) (m_queue : Nat) (m_months : Nat) (m_ways : Nat) (m_waysOn : Nat) (m_many : Nat) (m_width : Nat) (m_numbers : Nat) (m_moving : Nat) : Met l yX10_see uX10_see ({ frames := 0, cells := 0, slots := 0, locals := 0 }) (va_Pc [.ref h0, .int 0] (pw (dC, dI) vwCl [(h0, .inr (8, [.int 0, .ref m_world, .ref m_images, .ref m_hasImage, .ref m_luck, .ref m_tape, .int 0, .ref m_five, .int 0, .int 0, .int 0, .int 0, .int 0, .int 0, .int (-1), .ref m_fresh, .ref m_waits, .int 0, .int 0, .int 0, .ref m_figures, .ref m_pile, .long 0, .ref m_times, .ref m_far, .ref m_queue, .ref m_months, .ref m_ways, .ref m_waysOn, .ref m_many, .ref m_width, .ref m_numbers, .ref m_moving]))] [])) (vp_Si (fun r => r = (-1))) 0 0 (fun _ => False) := by
  refine Met.ofW (cc := cX10_see) (maxL := 2) (ret := (some .int)) (by decide) rfl ?_
  intro p e s m args below meth c s₁ B hml hv
  obtain ⟨rfl, hP, hK, hN⟩ := hv
  have hx := B.exec
  have hb := B.bytes
  have hr := B.returns
  have hts := atoms_spec (ws := uX10_see) B.pre
  have hown : s.vm.findClass RX10 = some m.cls := findClass_of_methodNamed B.named
  have hlocks := B.notSynchronized
  have hl := lv_entry ([.ref h0, .int 0]) (n := 2) (Nat.le_of_ble_eq_true rfl)
  rw [lg_entry_eq]
  generalize (lg_sl ([.ref h0, .int 0]) ++ List.replicate (2 - (lg_sl ([.ref h0, .int 0])).length) Slot.unset).toArray = ls at hl ⊢
  have hl : lv_has ls 2 [(0, .ref h0), (1, .int 0)] := hl
  refine lv_iload_n hx hb dX10_see_0 rfl (lv_at hl 1 rfl) ?_
  refine lv_aload_n hx hb dX10_see_1 rfl (lv_at hl 0 rfl) ?_
  refine va_get (D := (dC, dI)) (ci := 8) (v := .int 0) (C := RX10) (T := TX10) (N := 33) hx hb hts iX10_see_X10 hown hK hP 0 rfl rfl 8 (by decide) (hts (.fieldLink RX10 100 "LuckyTicketModel" "size" "I") (List.mem_of_getElem? (i := 1) rfl)) (fun _ h9 => h9) rfl dX10_see_2 ?_
  refine lv_icmp_ge (tgt := 21) hx hb dX10_see_5 (by decide) (fun _ => ?_) (fun c_1 => absurd c_1 (by decide))
  refine lv_iconst (v := (-1)) hx hb dX10_see_21 (by decide) ?_
  exact W.iret (v := (-1)) hx hb hr (fun t ht hW => ⟨(-1), rfl, rfl, ht⟩) t_nil dX10_see_22
theorem dX10_good_0 : decode cX10_good 0 = .ok (.aload_n 0, 1) := by decide +kernel
theorem dX10_good_1 : decode cX10_good 1 = .ok (.getfield 134, 3) := by decide +kernel
theorem dX10_good_4 : decode cX10_good 4 = .ok (.ifCond .ne 7, 3) := by decide +kernel
theorem dX10_good_7 : decode cX10_good 7 = .ok (.iconst 1, 1) := by decide +kernel
theorem dX10_good_8 : decode cX10_good 8 = .ok (.goto 4, 3) := by decide +kernel
theorem dX10_good_12 : decode cX10_good 12 = .ok (.ireturn, 1) := by decide +kernel
def uX10_good : List Cond := .code yX10_good cX10_good 1 (some .boolean) :: ([.fieldLink RX10 134 "LuckyTicketModel" "faultKind" "I"] ++ wsX100)
theorem iX10_good_X10 : ∀ w ∈ wsX100, w ∈ uX10_good := fun _ h => List.mem_cons_of_mem _ (List.mem_append_right _ h)
set_option maxHeartbeats 4000000 in
set_option maxRecDepth 100000 in
theorem kX10_good (l : Launch) (dC : Nat → ClassId) (dI : Nat → Nat → Nat) (h0 : Nat) (m_world : Nat) (m_images : Nat) (m_hasImage : Nat) (m_luck : Nat) (m_tape : Nat) (m_five : Nat) (m_fresh : Nat) (m_waits : Nat) (m_figures : Nat) (m_pile : Nat) (m_times : Nat) (m_far : Nat) (m_queue : Nat) (m_months : Nat) (m_ways : Nat) (m_waysOn : Nat) (m_many : Nat) (m_width : Nat) (m_numbers : Nat) (m_moving : Nat) : Met l yX10_good uX10_good ({ frames := 0, cells := 0, slots := 0, locals := 0 }) (va_Pc [.ref h0] (pw (dC, dI) vwCl [(h0, .inr (8, [.int 0, .ref m_world, .ref m_images, .ref m_hasImage, .ref m_luck, .ref m_tape, .int 0, .ref m_five, .int 0, .int 0, .int 0, .int 0, .int 0, .int 0, .int (-1), .ref m_fresh, .ref m_waits, .int 0, .int 0, .int 0, .ref m_figures, .ref m_pile, .long 0, .ref m_times, .ref m_far, .ref m_queue, .ref m_months, .ref m_ways, .ref m_waysOn, .ref m_many, .ref m_width, .ref m_numbers, .ref m_moving]))] [])) (vp_Si (fun r => r = 1)) 0 0 (fun _ => False) := by
  refine Met.ofW (cc := cX10_good) (maxL := 1) (ret := (some .boolean)) (by decide) rfl ?_
  intro p e s m args below meth c s₁ B hml hv
  obtain ⟨rfl, hP, hK, hN⟩ := hv
  have hx := B.exec
  have hb := B.bytes
  have hr := B.returns
  have hts := atoms_spec (ws := uX10_good) B.pre
  have hown : s.vm.findClass RX10 = some m.cls := findClass_of_methodNamed B.named
  have hlocks := B.notSynchronized
  have hl := lv_entry ([.ref h0]) (n := 1) (Nat.le_of_ble_eq_true rfl)
  rw [lg_entry_eq]
  generalize (lg_sl ([.ref h0]) ++ List.replicate (1 - (lg_sl ([.ref h0])).length) Slot.unset).toArray = ls at hl ⊢
  have hl : lv_has ls 1 [(0, .ref h0)] := hl
  refine lv_aload_n hx hb dX10_good_0 rfl (lv_at hl 0 rfl) ?_
  refine va_get (D := (dC, dI)) (ci := 8) (v := .int 0) (C := RX10) (T := TX10) (N := 33) hx hb hts iX10_good_X10 hown hK hP 0 rfl rfl 13 (by decide) (hts (.fieldLink RX10 134 "LuckyTicketModel" "faultKind" "I") (List.mem_of_getElem? (i := 1) rfl)) (fun _ h9 => h9) rfl dX10_good_1 ?_
  refine lv_if_ne (tgt := 11) hx hb dX10_good_4 (by decide) (fun c_1 => absurd c_1 (by decide)) (fun _ => ?_)
  refine lv_iconst (v := 1) hx hb dX10_good_7 (by decide) ?_
  refine lv_goto (tgt := 12) hx hb dX10_good_8 (by decide) ?_
  exact W.zret (v := 1) hx hb hr rfl (fun t ht hW => ⟨1, rfl, rfl, ht⟩) t_nil dX10_good_12
theorem dX10_advance_0 : decode cX10_advance 0 = .ok (.aload_n 0, 1) := by decide +kernel
theorem dX10_advance_1 : decode cX10_advance 1 = .ok (.aload_n 0, 1) := by decide +kernel
theorem dX10_advance_2 : decode cX10_advance 2 = .ok (.getfield 103, 3) := by decide +kernel
theorem dX10_advance_5 : decode cX10_advance 5 = .ok (.invokevirtual 106, 3) := by decide +kernel
theorem dX10_advance_8 : decode cX10_advance 8 = .ok (.bipush 32, 2) := by decide +kernel
theorem dX10_advance_10 : decode cX10_advance 10 = .ok (.if_icmp .eq 16, 3) := by decide +kernel
theorem dX10_advance_13 : decode cX10_advance 13 = .ok (.aload_n 0, 1) := by decide +kernel
theorem dX10_advance_14 : decode cX10_advance 14 = .ok (.aload_n 0, 1) := by decide +kernel
theorem dX10_advance_15 : decode cX10_advance 15 = .ok (.getfield 103, 3) := by decide +kernel
theorem dX10_advance_18 : decode cX10_advance 18 = .ok (.invokevirtual 106, 3) := by decide +kernel
theorem dX10_advance_21 : decode cX10_advance 21 = .ok (.bipush 10, 2) := by decide +kernel
theorem dX10_advance_23 : decode cX10_advance 23 = .ok (.if_icmp .ne 16, 3) := by decide +kernel
theorem dX10_advance_39 : decode cX10_advance 39 = .ok (.aload_n 0, 1) := by decide +kernel
theorem dX10_advance_40 : decode cX10_advance 40 = .ok (.aload_n 0, 1) := by decide +kernel
theorem dX10_advance_41 : decode cX10_advance 41 = .ok (.getfield 103, 3) := by decide +kernel
theorem dX10_advance_44 : decode cX10_advance 44 = .ok (.putfield 110, 3) := by decide +kernel
theorem dX10_advance_47 : decode cX10_advance 47 = .ok (.aload_n 0, 1) := by decide +kernel
theorem dX10_advance_48 : decode cX10_advance 48 = .ok (.aload_n 0, 1) := by decide +kernel
theorem dX10_advance_49 : decode cX10_advance 49 = .ok (.getfield 103, 3) := by decide +kernel
theorem dX10_advance_52 : decode cX10_advance 52 = .ok (.invokevirtual 106, 3) := by decide +kernel
theorem dX10_advance_55 : decode cX10_advance 55 = .ok (.istore_n 1, 1) := by decide +kernel
theorem dX10_advance_56 : decode cX10_advance 56 = .ok (.iload_n 1, 1) := by decide +kernel
theorem dX10_advance_57 : decode cX10_advance 57 = .ok (.iconst (-1), 1) := by decide +kernel
theorem dX10_advance_58 : decode cX10_advance 58 = .ok (.if_icmp .ne 11, 3) := by decide +kernel
theorem dX10_advance_61 : decode cX10_advance 61 = .ok (.aload_n 0, 1) := by decide +kernel
theorem dX10_advance_62 : decode cX10_advance 62 = .ok (.iconst 0, 1) := by decide +kernel
theorem dX10_advance_63 : decode cX10_advance 63 = .ok (.putfield 113, 3) := by decide +kernel
theorem dX10_advance_66 : decode cX10_advance 66 = .ok (.goto 194, 3) := by decide +kernel
theorem dX10_advance_260 : decode cX10_advance 260 = .ok (.return_, 1) := by decide +kernel
def uX10_advance : List Cond := .code yX10_advance cX10_advance 2 none :: ([.fieldLink RX10 103 "LuckyTicketModel" "at" "I", .methodLink RX10 106 yX10_see, .instanceMethod yX10_see, .selects RX10 yX10_see yX10_see, .initialized RX10, .code yX10_see cX10_see 2 (some .int), .fieldLink RX10 100 "LuckyTicketModel" "size" "I", .fieldLink RX10 110 "LuckyTicketModel" "from" "I", .fieldLink RX10 113 "LuckyTicketModel" "token" "I"] ++ wsX100)
theorem iX10_advance_X10 : ∀ w ∈ wsX100, w ∈ uX10_advance := fun _ h => List.mem_cons_of_mem _ (List.mem_append_right _ h)
set_option maxRecDepth 20000 in
theorem gX10_advance__X10_see_V106 : GoodIn uX10_advance (wsV RX10 106 RX10 yX10_see uX10_see) := goodIn_p _ [6] rfl (by decide +kernel)
set_option maxHeartbeats 4000000 in
set_option maxRecDepth 100000 in
theorem kX10_advance (l : Launch) (dC : Nat → ClassId) (dI : Nat → Nat → Nat) (h0 : Nat) (m_world : Nat) (m_images : Nat) (m_hasImage : Nat) (m_luck : Nat) (m_tape : Nat) (m_five : Nat) (m_fresh : Nat) (m_waits : Nat) (m_figures : Nat) (m_pile : Nat) (m_times : Nat) (m_far : Nat) (m_queue : Nat) (m_months : Nat) (m_ways : Nat) (m_waysOn : Nat) (m_many : Nat) (m_width : Nat) (m_numbers : Nat) (m_moving : Nat) (sz : Nat) : Met l yX10_advance uX10_advance ({ frames := 1, cells := 0, slots := 0, locals := 21 }) (va_Pc [.ref h0] (hw (dC, dI) vwCl [(h0, .inr (8, [.int 0, .ref m_world, .ref m_images, .ref m_hasImage, .ref m_luck, .ref m_tape, .int 0, .ref m_five, .int 0, .int 0, .int 0, .int 0, .int 0, .int 0, .int (-1), .ref m_fresh, .ref m_waits, .int 0, .int 0, .int 0, .ref m_figures, .ref m_pile, .long 0, .ref m_times, .ref m_far, .ref m_queue, .ref m_months, .ref m_ways, .ref m_waysOn, .ref m_many, .ref m_width, .ref m_numbers, .ref m_moving]))] [] sz)) (va_Qv (fun (_ : Unit) => True) (fun (_ : Unit) t => va_P (dC, dI) vwCl [(h0, .inr (8, [.int 0, .ref m_world, .ref m_images, .ref m_hasImage, .ref m_luck, .ref m_tape, .int 0, .ref m_five, .int 0, .int 0, .int 0, .int 0, .int 0, .int 0, .int (-1), .ref m_fresh, .ref m_waits, .int 0, .int 0, .int 0, .ref m_figures, .ref m_pile, .long 0, .ref m_times, .ref m_far, .ref m_queue, .ref m_months, .ref m_ways, .ref m_waysOn, .ref m_many, .ref m_width, .ref m_numbers, .ref m_moving]))] t.heap ∧ va_K (dC, dI) vwCl [] t ∧ va_D (va_A [(h0, .inr (8, [.int 0, .ref m_world, .ref m_images, .ref m_hasImage, .ref m_luck, .ref m_tape, .int 0, .ref m_five, .int 0, .int 0, .int 0, .int 0, .int 0, .int 0, .int (-1), .ref m_fresh, .ref m_waits, .int 0, .int 0, .int 0, .ref m_figures, .ref m_pile, .long 0, .ref m_times, .ref m_far, .ref m_queue, .ref m_months, .ref m_ways, .ref m_waysOn, .ref m_many, .ref m_width, .ref m_numbers, .ref m_moving]))] sz) [(h0, .inr (8, [.int 0, .ref m_world, .ref m_images, .ref m_hasImage, .ref m_luck, .ref m_tape, .int 0, .ref m_five, .int 0, .int 0, .int 0, .int 0, .int 0, .int 0, .int (-1), .ref m_fresh, .ref m_waits, .int 0, .int 0, .int 0, .ref m_figures, .ref m_pile, .long 0, .ref m_times, .ref m_far, .ref m_queue, .ref m_months, .ref m_ways, .ref m_waysOn, .ref m_many, .ref m_width, .ref m_numbers, .ref m_moving]))]) (va_A [(h0, .inr (8, [.int 0, .ref m_world, .ref m_images, .ref m_hasImage, .ref m_luck, .ref m_tape, .int 0, .ref m_five, .int 0, .int 0, .int 0, .int 0, .int 0, .int 0, .int (-1), .ref m_fresh, .ref m_waits, .int 0, .int 0, .int 0, .ref m_figures, .ref m_pile, .long 0, .ref m_times, .ref m_far, .ref m_queue, .ref m_months, .ref m_ways, .ref m_waysOn, .ref m_many, .ref m_width, .ref m_numbers, .ref m_moving]))] sz)) 0 0 (va_A [(h0, .inr (8, [.int 0, .ref m_world, .ref m_images, .ref m_hasImage, .ref m_luck, .ref m_tape, .int 0, .ref m_five, .int 0, .int 0, .int 0, .int 0, .int 0, .int 0, .int (-1), .ref m_fresh, .ref m_waits, .int 0, .int 0, .int 0, .ref m_figures, .ref m_pile, .long 0, .ref m_times, .ref m_far, .ref m_queue, .ref m_months, .ref m_ways, .ref m_waysOn, .ref m_many, .ref m_width, .ref m_numbers, .ref m_moving]))] sz) := by
  refine Met.ofW (cc := cX10_advance) (maxL := 2) (ret := none) (by decide) rfl ?_
  intro p e s m args below meth c s₁ B hml hv
  obtain ⟨rfl, hsz, hP, hK, hD0, hN⟩ := hv
  have hx := B.exec
  have hb := B.bytes
  have hr := B.returns
  have hts := atoms_spec (ws := uX10_advance) B.pre
  have hown : s.vm.findClass RX10 = some m.cls := findClass_of_methodNamed B.named
  have hlocks := B.notSynchronized
  subst hsz
  have hD := hD0.self (sz := s.heap.size)
  generalize hAe : va_A [(h0, .inr (8, [.int 0, .ref m_world, .ref m_images, .ref m_hasImage, .ref m_luck, .ref m_tape, .int 0, .ref m_five, .int 0, .int 0, .int 0, .int 0, .int 0, .int 0, .int (-1), .ref m_fresh, .ref m_waits, .int 0, .int 0, .int 0, .ref m_figures, .ref m_pile, .long 0, .ref m_times, .ref m_far, .ref m_queue, .ref m_months, .ref m_ways, .ref m_waysOn, .ref m_many, .ref m_width, .ref m_numbers, .ref m_moving]))] s.heap.size = A at hD ⊢
  have hA : ∀ q : Nat, s.heap.size ≤ q → A q := fun q h => by rw [← hAe]; exact Or.inr h
  have hS : va_S A s.heap s.heap [] := va_S.rf
  have hP : va_P (dC, dI) vwCl [(h0, .inr (8, [.int 0, .ref m_world, .ref m_images, .ref m_hasImage, .ref m_luck, .ref m_tape, .int 0, .ref m_five, .int 0, .int 0, .int 0, .int 0, .int 0, .int 0, .int (-1), .ref m_fresh, .ref m_waits, .int 0, .int 0, .int 0, .ref m_figures, .ref m_pile, .long 0, .ref m_times, .ref m_far, .ref m_queue, .ref m_months, .ref m_ways, .ref m_waysOn, .ref m_many, .ref m_width, .ref m_numbers, .ref m_moving]))] s.heap := hP
  have hl := lv_entry ([.ref h0]) (n := 2) (Nat.le_of_ble_eq_true rfl)
  rw [lg_entry_eq]
  generalize (lg_sl ([.ref h0]) ++ List.replicate (2 - (lg_sl ([.ref h0])).length) Slot.unset).toArray = ls at hl ⊢
  have hl : lv_has ls 2 [(0, .ref h0)] := hl
  refine lv_aload_n hx hb dX10_advance_0 rfl (lv_at hl 0 rfl) ?_
  refine lv_aload_n hx hb dX10_advance_1 rfl (lv_at hl 0 rfl) ?_
  refine va_get (D := (dC, dI)) (ci := 8) (v := .int 0) (C := RX10) (T := TX10) (N := 33) hx hb hts iX10_advance_X10 hown hK hP 0 rfl rfl 9 (by decide) (hts (.fieldLink RX10 103 "LuckyTicketModel" "at" "I") (List.mem_of_getElem? (i := 1) rfl)) (fun _ h9 => h9) rfl dX10_advance_2 ?_
  refine vp_callSi (W.runV (As := [.int 0]) (rest := []) ⟨hx, hb, hml, hown, hts⟩ (kX10_see l dC dI h0 m_world m_images m_hasImage m_luck m_tape m_five m_fresh m_waits m_figures m_pile m_times m_far m_queue m_months m_ways m_waysOn m_many m_width m_numbers m_moving) (cwV 1 hts gX10_advance__X10_see_V106 rfl rfl rfl (by decide +kernel) ⟨lel 1 1 rfl, lel 21 21 rfl⟩) ⟨pw_fb, va_recv hK hP (ci := 8) (q0 := 0) rfl rfl, (pw_use hP hK hN [0] rfl [] rfl)⟩ rfl rfl hl.1 rfl (lv_room (Nat.le_of_ble_eq_true rfl)) dX10_advance_5 ⟨lel 0 0 rfl, lel 0 0 rfl⟩) (fun r_1 hr_1 => ?_)
  obtain rfl : r_1 = (-1) := hr_1
  refine lv_bipush (v := 32) hx hb dX10_advance_8 (by decide) ?_
  refine lv_icmp_eq (tgt := 26) hx hb dX10_advance_10 (by decide) (fun c_2 => absurd c_2 (by decide)) (fun _ => ?_)
  refine lv_aload_n hx hb dX10_advance_13 rfl (lv_at hl 0 rfl) ?_
  refine lv_aload_n hx hb dX10_advance_14 rfl (lv_at hl 0 rfl) ?_
  refine va_get (D := (dC, dI)) (ci := 8) (v := .int 0) (C := RX10) (T := TX10) (N := 33) hx hb hts iX10_advance_X10 hown hK hP 0 rfl rfl 9 (by decide) (hts (.fieldLink RX10 103 "LuckyTicketModel" "at" "I") (List.mem_of_getElem? (i := 1) rfl)) (fun _ h9 => h9) rfl dX10_advance_15 ?_
  refine vp_callSi (W.runV (As := [.int 0]) (rest := []) ⟨hx, hb, hml, hown, hts⟩ (kX10_see l dC dI h0 m_world m_images m_hasImage m_luck m_tape m_five m_fresh m_waits m_figures m_pile m_times m_far m_queue m_months m_ways m_waysOn m_many m_width m_numbers m_moving) (cwV 1 hts gX10_advance__X10_see_V106 rfl rfl rfl (by decide +kernel) ⟨lel 1 1 rfl, lel 21 21 rfl⟩) ⟨pw_fb, va_recv hK hP (ci := 8) (q0 := 0) rfl rfl, (pw_use hP hK hN [0] rfl [] rfl)⟩ rfl rfl hl.1 rfl (lv_room (Nat.le_of_ble_eq_true rfl)) dX10_advance_18 ⟨lel 0 0 rfl, lel 0 0 rfl⟩) (fun r_3 hr_3 => ?_)
  obtain rfl : r_3 = (-1) := hr_3
  refine lv_bipush (v := 10) hx hb dX10_advance_21 (by decide) ?_
  refine lv_icmp_ne (tgt := 39) hx hb dX10_advance_23 (by decide) (fun _ => ?_) (fun c_4 => absurd c_4 (by decide))
  refine lv_aload_n hx hb dX10_advance_39 rfl (lv_at hl 0 rfl) ?_
  refine lv_aload_n hx hb dX10_advance_40 rfl (lv_at hl 0 rfl) ?_
  refine va_get (D := (dC, dI)) (ci := 8) (v := .int 0) (C := RX10) (T := TX10) (N := 33) hx hb hts iX10_advance_X10 hown hK hP 0 rfl rfl 9 (by decide) (hts (.fieldLink RX10 103 "LuckyTicketModel" "at" "I") (List.mem_of_getElem? (i := 1) rfl)) (fun _ h9 => h9) rfl dX10_advance_41 ?_
  refine va_put (D := (dC, dI)) (ci := 8) (v := .int 0) (ty := .int) (C := RX10) (T := TX10) (N := 33) hx hb hts iX10_advance_X10 tyX10 tyX10_ok nmX10 hown hK hP hD hS 0 rfl rfl 10 (by decide) (hts (.fieldLink RX10 110 "LuckyTicketModel" "from" "I") (List.mem_of_getElem? (i := 8) rfl)) (fun _ h9 => h9) rfl (by decide +kernel) rfl rfl (Nat.le_of_ble_eq_true rfl) dX10_advance_44 (fun H locs hP hD hS => ?_)
  have hP : va_P (dC, dI) vwCl [(h0, .inr (8, [.int 0, .ref m_world, .ref m_images, .ref m_hasImage, .ref m_luck, .ref m_tape, .int 0, .ref m_five, .int 0, .int 0, .int 0, .int 0, .int 0, .int 0, .int (-1), .ref m_fresh, .ref m_waits, .int 0, .int 0, .int 0, .ref m_figures, .ref m_pile, .long 0, .ref m_times, .ref m_far, .ref m_queue, .ref m_months, .ref m_ways, .ref m_waysOn, .ref m_many, .ref m_width, .ref m_numbers, .ref m_moving]))] H := hP
  have hD : va_D A [(h0, .inr (8, [.int 0, .ref m_world, .ref m_images, .ref m_hasImage, .ref m_luck, .ref m_tape, .int 0, .ref m_five, .int 0, .int 0, .int 0, .int 0, .int 0, .int 0, .int (-1), .ref m_fresh, .ref m_waits, .int 0, .int 0, .int 0, .ref m_figures, .ref m_pile, .long 0, .ref m_times, .ref m_far, .ref m_queue, .ref m_months, .ref m_ways, .ref m_waysOn, .ref m_many, .ref m_width, .ref m_numbers, .ref m_moving]))] := hD
  refine lv_aload_n hx hb dX10_advance_47 rfl (lv_at hl 0 rfl) ?_
  refine lv_aload_n hx hb dX10_advance_48 rfl (lv_at hl 0 rfl) ?_
  refine va_get (D := (dC, dI)) (ci := 8) (v := .int 0) (C := RX10) (T := TX10) (N := 33) hx hb hts iX10_advance_X10 hown hK hP 0 rfl rfl 9 (by decide) (hts (.fieldLink RX10 103 "LuckyTicketModel" "at" "I") (List.mem_of_getElem? (i := 1) rfl)) (fun _ h9 => h9) rfl dX10_advance_49 ?_
  refine vp_callSi (W.runV (As := [.int 0]) (rest := []) ⟨hx, hb, hml, hown, hts⟩ (kX10_see l dC dI h0 m_world m_images m_hasImage m_luck m_tape m_five m_fresh m_waits m_figures m_pile m_times m_far m_queue m_months m_ways m_waysOn m_many m_width m_numbers m_moving) (cwV 1 hts gX10_advance__X10_see_V106 rfl rfl rfl (by decide +kernel) ⟨lel 1 1 rfl, lel 21 21 rfl⟩) ⟨pw_fb, va_recv hK hP (ci := 8) (q0 := 0) rfl rfl, (pw_use hP hK hN [0] rfl [] rfl)⟩ rfl rfl hl.1 rfl (lv_room (Nat.le_of_ble_eq_true rfl)) dX10_advance_52 ⟨lel 0 0 rfl, lel 0 0 rfl⟩) (fun r_5 hr_5 => ?_)
  obtain rfl : r_5 = (-1) := hr_5
  refine lv_istore_n (lv' := [(1, .int (-1)), (0, .ref h0)]) hx hb dX10_advance_55 rfl hl (by decide) rfl (fun ls hl => ?_)
  refine lv_iload_n hx hb dX10_advance_56 rfl (lv_at hl 0 rfl) ?_
  refine lv_iconst (v := (-1)) hx hb dX10_advance_57 (by decide) ?_
  refine lv_icmp_ne (tgt := 69) hx hb dX10_advance_58 (by decide) (fun c_6 => absurd c_6 (by decide)) (fun _ => ?_)
  refine lv_aload_n hx hb dX10_advance_61 rfl (lv_at hl 1 rfl) ?_
  refine lv_iconst (v := 0) hx hb dX10_advance_62 (by decide) ?_
  refine va_put (D := (dC, dI)) (ci := 8) (v := .int 0) (ty := .int) (C := RX10) (T := TX10) (N := 33) hx hb hts iX10_advance_X10 tyX10 tyX10_ok nmX10 hown hK hP hD hS 0 rfl rfl 11 (by decide) (hts (.fieldLink RX10 113 "LuckyTicketModel" "token" "I") (List.mem_of_getElem? (i := 9) rfl)) (fun _ h9 => h9) rfl (by decide +kernel) rfl rfl (Nat.le_of_ble_eq_true rfl) dX10_advance_63 (fun H locs hP hD hS => ?_)
  have hP : va_P (dC, dI) vwCl [(h0, .inr (8, [.int 0, .ref m_world, .ref m_images, .ref m_hasImage, .ref m_luck, .ref m_tape, .int 0, .ref m_five, .int 0, .int 0, .int 0, .int 0, .int 0, .int 0, .int (-1), .ref m_fresh, .ref m_waits, .int 0, .int 0, .int 0, .ref m_figures, .ref m_pile, .long 0, .ref m_times, .ref m_far, .ref m_queue, .ref m_months, .ref m_ways, .ref m_waysOn, .ref m_many, .ref m_width, .ref m_numbers, .ref m_moving]))] H := hP
  have hD : va_D A [(h0, .inr (8, [.int 0, .ref m_world, .ref m_images, .ref m_hasImage, .ref m_luck, .ref m_tape, .int 0, .ref m_five, .int 0, .int 0, .int 0, .int 0, .int 0, .int 0, .int (-1), .ref m_fresh, .ref m_waits, .int 0, .int 0, .int 0, .ref m_figures, .ref m_pile, .long 0, .ref m_times, .ref m_far, .ref m_queue, .ref m_months, .ref m_ways, .ref m_waysOn, .ref m_many, .ref m_width, .ref m_numbers, .ref m_moving]))] := hD
  refine lv_goto (tgt := 260) hx hb dX10_advance_66 (by decide) ?_
  have hP9 := hP.sub (ws' := [(h0, .inr (8, [.int 0, .ref m_world, .ref m_images, .ref m_hasImage, .ref m_luck, .ref m_tape, .int 0, .ref m_five, .int 0, .int 0, .int 0, .int 0, .int 0, .int 0, .int (-1), .ref m_fresh, .ref m_waits, .int 0, .int 0, .int 0, .ref m_figures, .ref m_pile, .long 0, .ref m_times, .ref m_far, .ref m_queue, .ref m_months, .ref m_ways, .ref m_waysOn, .ref m_many, .ref m_width, .ref m_numbers, .ref m_moving]))]) [0] rfl
  have hD9 := hD.sub (ws' := [(h0, .inr (8, [.int 0, .ref m_world, .ref m_images, .ref m_hasImage, .ref m_luck, .ref m_tape, .int 0, .ref m_five, .int 0, .int 0, .int 0, .int 0, .int 0, .int 0, .int (-1), .ref m_fresh, .ref m_waits, .int 0, .int 0, .int 0, .ref m_figures, .ref m_pile, .long 0, .ref m_times, .ref m_far, .ref m_queue, .ref m_months, .ref m_ways, .ref m_waysOn, .ref m_many, .ref m_width, .ref m_numbers, .ref m_moving]))]) [0] (by decide) rfl
  have hK9 := hK.sub (tys' := []) [] rfl
  exact W.vret hx hb hr (fun t ht hW => ⟨⟨(), rfl, trivial, by rw [ht]; exact hP9, va_K.moved hW.alike hK9, hD9⟩, hS.F ht⟩) hS.2.2 dX10_advance_260
theorem dX10_fillLuck_0 : decode cX10_fillLuck 0 = .ok (.iconst 0, 1) := by decide +kernel
theorem dX10_fillLuck_1 : decode cX10_fillLuck 1 = .ok (.istore_n 1, 1) := by decide +kernel
theorem dX10_fillLuck_2 : decode cX10_fillLuck 2 = .ok (.iload_n 1, 1) := by decide +kernel
theorem dX10_fillLuck_3 : decode cX10_fillLuck 3 = .ok (.aload_n 0, 1) := by decide +kernel
theorem dX10_fillLuck_4 : decode cX10_fillLuck 4 = .ok (.getfield 9, 3) := by decide +kernel
theorem dX10_fillLuck_7 : decode cX10_fillLuck 7 = .ok (.iconst 2, 1) := by decide +kernel
theorem dX10_fillLuck_8 : decode cX10_fillLuck 8 = .ok (.iaload, 1) := by decide +kernel
theorem dX10_fillLuck_9 : decode cX10_fillLuck 9 = .ok (.if_icmp .ge 60, 3) := by decide +kernel
theorem dX10_fillLuck_69 : decode cX10_fillLuck 69 = .ok (.return_, 1) := by decide +kernel
def uX10_fillLuck : List Cond := .code yX10_fillLuck cX10_fillLuck 4 none :: ([.fieldLink RX10 9 "LuckyTicketModel" "world" "[I"] ++ wsX100)
theorem iX10_fillLuck_X10 : ∀ w ∈ wsX100, w ∈ uX10_fillLuck := fun _ h => List.mem_cons_of_mem _ (List.mem_append_right _ h)
set_option maxHeartbeats 4000000 in
set_option maxRecDepth 100000 in
theorem kX10_fillLuck (l : Launch) (dC : Nat → ClassId) (dI : Nat → Nat → Nat) (h0 : Nat) (m_world : Nat) (m_images : Nat) (m_hasImage : Nat) (m_luck : Nat) (m_tape : Nat) (m_five : Nat) (m_fresh : Nat) (m_waits : Nat) (m_figures : Nat) (m_pile : Nat) (m_times : Nat) (m_far : Nat) (m_queue : Nat) (m_months : Nat) (m_ways : Nat) (m_waysOn : Nat) (m_many : Nat) (m_width : Nat) (m_numbers : Nat) (m_moving : Nat) (cI : ClassId) (sz : Nat) : Met l yX10_fillLuck uX10_fillLuck ({ frames := 0, cells := 0, slots := 0, locals := 0 }) (va_Pc [.ref h0] (hw (dC, dI) vwCl [(h0, .inr (8, [.int 0, .ref m_world, .ref m_images, .ref m_hasImage, .ref m_luck, .ref m_tape, .int 0, .ref m_five, .int 0, .int 0, .int 0, .int 0, .int 0, .int 0, .int (-1), .ref m_fresh, .ref m_waits, .int 0, .int 0, .int 0, .ref m_figures, .ref m_pile, .long 0, .ref m_times, .ref m_far, .ref m_queue, .ref m_months, .ref m_ways, .ref m_waysOn, .ref m_many, .ref m_width, .ref m_numbers, .ref m_moving])), (m_world, .inl (cI, 1875, .inl (fun _ => 0)))] [(cI, .int)] sz)) (va_Qv (fun (_ : Unit) => True) (fun (_ : Unit) t => va_P (dC, dI) vwCl [(h0, .inr (8, [.int 0, .ref m_world, .ref m_images, .ref m_hasImage, .ref m_luck, .ref m_tape, .int 0, .ref m_five, .int 0, .int 0, .int 0, .int 0, .int 0, .int 0, .int (-1), .ref m_fresh, .ref m_waits, .int 0, .int 0, .int 0, .ref m_figures, .ref m_pile, .long 0, .ref m_times, .ref m_far, .ref m_queue, .ref m_months, .ref m_ways, .ref m_waysOn, .ref m_many, .ref m_width, .ref m_numbers, .ref m_moving])), (m_world, .inl (cI, 1875, .inl (fun _ => 0)))] t.heap ∧ va_K (dC, dI) vwCl [(cI, .int)] t ∧ va_D (va_A [(h0, .inr (8, [.int 0, .ref m_world, .ref m_images, .ref m_hasImage, .ref m_luck, .ref m_tape, .int 0, .ref m_five, .int 0, .int 0, .int 0, .int 0, .int 0, .int 0, .int (-1), .ref m_fresh, .ref m_waits, .int 0, .int 0, .int 0, .ref m_figures, .ref m_pile, .long 0, .ref m_times, .ref m_far, .ref m_queue, .ref m_months, .ref m_ways, .ref m_waysOn, .ref m_many, .ref m_width, .ref m_numbers, .ref m_moving])), (m_world, .inl (cI, 1875, .inl (fun _ => 0)))] sz) [(h0, .inr (8, [.int 0, .ref m_world, .ref m_images, .ref m_hasImage, .ref m_luck, .ref m_tape, .int 0, .ref m_five, .int 0, .int 0, .int 0, .int 0, .int 0, .int 0, .int (-1), .ref m_fresh, .ref m_waits, .int 0, .int 0, .int 0, .ref m_figures, .ref m_pile, .long 0, .ref m_times, .ref m_far, .ref m_queue, .ref m_months, .ref m_ways, .ref m_waysOn, .ref m_many, .ref m_width, .ref m_numbers, .ref m_moving])), (m_world, .inl (cI, 1875, .inl (fun _ => 0)))]) (va_A [(h0, .inr (8, [.int 0, .ref m_world, .ref m_images, .ref m_hasImage, .ref m_luck, .ref m_tape, .int 0, .ref m_five, .int 0, .int 0, .int 0, .int 0, .int 0, .int 0, .int (-1), .ref m_fresh, .ref m_waits, .int 0, .int 0, .int 0, .ref m_figures, .ref m_pile, .long 0, .ref m_times, .ref m_far, .ref m_queue, .ref m_months, .ref m_ways, .ref m_waysOn, .ref m_many, .ref m_width, .ref m_numbers, .ref m_moving])), (m_world, .inl (cI, 1875, .inl (fun _ => 0)))] sz)) 0 0 (va_A [(h0, .inr (8, [.int 0, .ref m_world, .ref m_images, .ref m_hasImage, .ref m_luck, .ref m_tape, .int 0, .ref m_five, .int 0, .int 0, .int 0, .int 0, .int 0, .int 0, .int (-1), .ref m_fresh, .ref m_waits, .int 0, .int 0, .int 0, .ref m_figures, .ref m_pile, .long 0, .ref m_times, .ref m_far, .ref m_queue, .ref m_months, .ref m_ways, .ref m_waysOn, .ref m_many, .ref m_width, .ref m_numbers, .ref m_moving])), (m_world, .inl (cI, 1875, .inl (fun _ => 0)))] sz) := by
  refine Met.ofW (cc := cX10_fillLuck) (maxL := 4) (ret := none) (by decide) rfl ?_
  intro p e s m args below meth c s₁ B hml hv
  obtain ⟨rfl, hsz, hP, hK, hD0, hN⟩ := hv
  have hx := B.exec
  have hb := B.bytes
  have hr := B.returns
  have hts := atoms_spec (ws := uX10_fillLuck) B.pre
  have hown : s.vm.findClass RX10 = some m.cls := findClass_of_methodNamed B.named
  have hlocks := B.notSynchronized
  subst hsz
  have hD := hD0.self (sz := s.heap.size)
  generalize hAe : va_A [(h0, .inr (8, [.int 0, .ref m_world, .ref m_images, .ref m_hasImage, .ref m_luck, .ref m_tape, .int 0, .ref m_five, .int 0, .int 0, .int 0, .int 0, .int 0, .int 0, .int (-1), .ref m_fresh, .ref m_waits, .int 0, .int 0, .int 0, .ref m_figures, .ref m_pile, .long 0, .ref m_times, .ref m_far, .ref m_queue, .ref m_months, .ref m_ways, .ref m_waysOn, .ref m_many, .ref m_width, .ref m_numbers, .ref m_moving])), (m_world, .inl (cI, 1875, .inl (fun _ => 0)))] s.heap.size = A at hD ⊢
  have hA : ∀ q : Nat, s.heap.size ≤ q → A q := fun q h => by rw [← hAe]; exact Or.inr h
  have hS : va_S A s.heap s.heap [] := va_S.rf
  have hP : va_P (dC, dI) vwCl [(h0, .inr (8, [.int 0, .ref m_world, .ref m_images, .ref m_hasImage, .ref m_luck, .ref m_tape, .int 0, .ref m_five, .int 0, .int 0, .int 0, .int 0, .int 0, .int 0, .int (-1), .ref m_fresh, .ref m_waits, .int 0, .int 0, .int 0, .ref m_figures, .ref m_pile, .long 0, .ref m_times, .ref m_far, .ref m_queue, .ref m_months, .ref m_ways, .ref m_waysOn, .ref m_many, .ref m_width, .ref m_numbers, .ref m_moving])), (m_world, .inl (cI, 1875, .inl (fun _ => 0)))] s.heap := hP
  have hl := lv_entry ([.ref h0]) (n := 4) (Nat.le_of_ble_eq_true rfl)
  rw [lg_entry_eq]
  generalize (lg_sl ([.ref h0]) ++ List.replicate (4 - (lg_sl ([.ref h0])).length) Slot.unset).toArray = ls at hl ⊢
  have hl : lv_has ls 4 [(0, .ref h0)] := hl
  refine lv_iconst (v := 0) hx hb dX10_fillLuck_0 (by decide) ?_
  refine lv_istore_n (lv' := [(1, .int 0), (0, .ref h0)]) hx hb dX10_fillLuck_1 rfl hl (by decide) rfl (fun ls hl => ?_)
  refine lv_iload_n hx hb dX10_fillLuck_2 rfl (lv_at hl 0 rfl) ?_
  refine lv_aload_n hx hb dX10_fillLuck_3 rfl (lv_at hl 1 rfl) ?_
  refine va_get (D := (dC, dI)) (ci := 8) (v := .ref m_world) (C := RX10) (T := TX10) (N := 33) hx hb hts iX10_fillLuck_X10 hown hK hP 0 rfl rfl 1 (by decide) (hts (.fieldLink RX10 9 "LuckyTicketModel" "world" "[I") (List.mem_of_getElem? (i := 1) rfl)) (fun _ h9 => h9) rfl dX10_fillLuck_4 ?_
  refine lv_iconst (v := 2) hx hb dX10_fillLuck_7 (by decide) ?_
  refine va_iald hx hb hK hP 1 0 rfl rfl (vp_in_lit (by decide)) dX10_fillLuck_8 ?_
  refine lv_topi (fun z_1 ez_1 => ?_)
  obtain rfl : z_1 = 0 := ez_1
  refine lv_icmp_ge (tgt := 69) hx hb dX10_fillLuck_9 (by decide) (fun _ => ?_) (fun c_2 => absurd c_2 (by decide))
  have hP9 := hP.sub (ws' := [(h0, .inr (8, [.int 0, .ref m_world, .ref m_images, .ref m_hasImage, .ref m_luck, .ref m_tape, .int 0, .ref m_five, .int 0, .int 0, .int 0, .int 0, .int 0, .int 0, .int (-1), .ref m_fresh, .ref m_waits, .int 0, .int 0, .int 0, .ref m_figures, .ref m_pile, .long 0, .ref m_times, .ref m_far, .ref m_queue, .ref m_months, .ref m_ways, .ref m_waysOn, .ref m_many, .ref m_width, .ref m_numbers, .ref m_moving])), (m_world, .inl (cI, 1875, .inl (fun _ => 0)))]) [0, 1] rfl
  have hD9 := hD.sub (ws' := [(h0, .inr (8, [.int 0, .ref m_world, .ref m_images, .ref m_hasImage, .ref m_luck, .ref m_tape, .int 0, .ref m_five, .int 0, .int 0, .int 0, .int 0, .int 0, .int 0, .int (-1), .ref m_fresh, .ref m_waits, .int 0, .int 0, .int 0, .ref m_figures, .ref m_pile, .long 0, .ref m_times, .ref m_far, .ref m_queue, .ref m_months, .ref m_ways, .ref m_waysOn, .ref m_many, .ref m_width, .ref m_numbers, .ref m_moving])), (m_world, .inl (cI, 1875, .inl (fun _ => 0)))]) [0, 1] (by decide) rfl
  have hK9 := hK.sub (tys' := [(cI, .int)]) [0] rfl
  exact W.vret hx hb hr (fun t ht hW => ⟨⟨(), rfl, trivial, by rw [ht]; exact hP9, va_K.moved hW.alike hK9, hD9⟩, hS.F ht⟩) hS.2.2 dX10_fillLuck_69
theorem dX10_roll_0 : decode cX10_roll 0 = .ok (.aload_n 0, 1) := by decide +kernel
theorem dX10_roll_1 : decode cX10_roll 1 = .ok (.aload_n 0, 1) := by decide +kernel
theorem dX10_roll_2 : decode cX10_roll 2 = .ok (.getfield 97, 3) := by decide +kernel
theorem dX10_roll_5 : decode cX10_roll 5 = .ok (.putfield 100, 3) := by decide +kernel
theorem dX10_roll_8 : decode cX10_roll 8 = .ok (.aload_n 0, 1) := by decide +kernel
theorem dX10_roll_9 : decode cX10_roll 9 = .ok (.iconst 0, 1) := by decide +kernel
theorem dX10_roll_10 : decode cX10_roll 10 = .ok (.putfield 97, 3) := by decide +kernel
theorem dX10_roll_13 : decode cX10_roll 13 = .ok (.aload_n 0, 1) := by decide +kernel
theorem dX10_roll_14 : decode cX10_roll 14 = .ok (.iconst 0, 1) := by decide +kernel
theorem dX10_roll_15 : decode cX10_roll 15 = .ok (.putfield 103, 3) := by decide +kernel
theorem dX10_roll_18 : decode cX10_roll 18 = .ok (.aload_n 0, 1) := by decide +kernel
theorem dX10_roll_19 : decode cX10_roll 19 = .ok (.iconst 0, 1) := by decide +kernel
theorem dX10_roll_20 : decode cX10_roll 20 = .ok (.putfield 134, 3) := by decide +kernel
theorem dX10_roll_23 : decode cX10_roll 23 = .ok (.aload_n 0, 1) := by decide +kernel
theorem dX10_roll_24 : decode cX10_roll 24 = .ok (.iconst (-1), 1) := by decide +kernel
theorem dX10_roll_25 : decode cX10_roll 25 = .ok (.putfield 30, 3) := by decide +kernel
theorem dX10_roll_28 : decode cX10_roll 28 = .ok (.iconst 0, 1) := by decide +kernel
theorem dX10_roll_29 : decode cX10_roll 29 = .ok (.istore_n 1, 1) := by decide +kernel
theorem dX10_roll_30 : decode cX10_roll 30 = .ok (.iload_n 1, 1) := by decide +kernel
theorem dX10_roll_31 : decode cX10_roll 31 = .ok (.sipush 1875, 3) := by decide +kernel
theorem dX10_roll_34 : decode cX10_roll 34 = .ok (.if_icmp .ge 16, 3) := by decide +kernel
theorem dX10_roll_37 : decode cX10_roll 37 = .ok (.aload_n 0, 1) := by decide +kernel
theorem dX10_roll_38 : decode cX10_roll 38 = .ok (.getfield 34, 3) := by decide +kernel
theorem dX10_roll_41 : decode cX10_roll 41 = .ok (.iload_n 1, 1) := by decide +kernel
theorem dX10_roll_42 : decode cX10_roll 42 = .ok (.iconst 0, 1) := by decide +kernel
theorem dX10_roll_43 : decode cX10_roll 43 = .ok (.iastore, 1) := by decide +kernel
theorem dX10_roll_44 : decode cX10_roll 44 = .ok (.iinc 1 1, 3) := by decide +kernel
theorem dX10_roll_47 : decode cX10_roll 47 = .ok (.goto (-17), 3) := by decide +kernel
theorem dX10_roll_50 : decode cX10_roll 50 = .ok (.aload_n 0, 1) := by decide +kernel
theorem dX10_roll_51 : decode cX10_roll 51 = .ok (.invokevirtual 155, 3) := by decide +kernel
theorem dX10_roll_54 : decode cX10_roll 54 = .ok (.aload_n 0, 1) := by decide +kernel
theorem dX10_roll_55 : decode cX10_roll 55 = .ok (.invokevirtual 137, 3) := by decide +kernel
theorem dX10_roll_58 : decode cX10_roll 58 = .ok (.ifCond .eq 17, 3) := by decide +kernel
theorem dX10_roll_61 : decode cX10_roll 61 = .ok (.aload_n 0, 1) := by decide +kernel
theorem dX10_roll_62 : decode cX10_roll 62 = .ok (.getfield 113, 3) := by decide +kernel
theorem dX10_roll_65 : decode cX10_roll 65 = .ok (.ifCond .eq 10, 3) := by decide +kernel
theorem dX10_roll_75 : decode cX10_roll 75 = .ok (.aload_n 0, 1) := by decide +kernel
theorem dX10_roll_76 : decode cX10_roll 76 = .ok (.invokevirtual 137, 3) := by decide +kernel
theorem dX10_roll_79 : decode cX10_roll 79 = .ok (.ifCond .ne 6, 3) := by decide +kernel
theorem dX10_roll_85 : decode cX10_roll 85 = .ok (.iconst 0, 1) := by decide +kernel
theorem dX10_roll_86 : decode cX10_roll 86 = .ok (.istore_n 1, 1) := by decide +kernel
theorem dX10_roll_87 : decode cX10_roll 87 = .ok (.iload_n 1, 1) := by decide +kernel
theorem dX10_roll_88 : decode cX10_roll 88 = .ok (.sipush 1875, 3) := by decide +kernel
theorem dX10_roll_91 : decode cX10_roll 91 = .ok (.if_icmp .ge 21, 3) := by decide +kernel
theorem dX10_roll_94 : decode cX10_roll 94 = .ok (.aload_n 0, 1) := by decide +kernel
theorem dX10_roll_95 : decode cX10_roll 95 = .ok (.getfield 9, 3) := by decide +kernel
theorem dX10_roll_98 : decode cX10_roll 98 = .ok (.iload_n 1, 1) := by decide +kernel
theorem dX10_roll_99 : decode cX10_roll 99 = .ok (.aload_n 0, 1) := by decide +kernel
theorem dX10_roll_100 : decode cX10_roll 100 = .ok (.getfield 34, 3) := by decide +kernel
theorem dX10_roll_103 : decode cX10_roll 103 = .ok (.iload_n 1, 1) := by decide +kernel
theorem dX10_roll_104 : decode cX10_roll 104 = .ok (.iaload, 1) := by decide +kernel
theorem dX10_roll_105 : decode cX10_roll 105 = .ok (.iastore, 1) := by decide +kernel
theorem dX10_roll_106 : decode cX10_roll 106 = .ok (.iinc 1 1, 3) := by decide +kernel
theorem dX10_roll_109 : decode cX10_roll 109 = .ok (.goto (-22), 3) := by decide +kernel
theorem dX10_roll_112 : decode cX10_roll 112 = .ok (.aload_n 0, 1) := by decide +kernel
theorem dX10_roll_113 : decode cX10_roll 113 = .ok (.invokevirtual 86, 3) := by decide +kernel
theorem dX10_roll_116 : decode cX10_roll 116 = .ok (.aload_n 0, 1) := by decide +kernel
theorem dX10_roll_117 : decode cX10_roll 117 = .ok (.getfield 9, 3) := by decide +kernel
theorem dX10_roll_120 : decode cX10_roll 120 = .ok (.iconst 4, 1) := by decide +kernel
theorem dX10_roll_121 : decode cX10_roll 121 = .ok (.iaload, 1) := by decide +kernel
theorem dX10_roll_122 : decode cX10_roll 122 = .ok (.ireturn, 1) := by decide +kernel
def uX10_roll : List Cond := .code yX10_roll cX10_roll 2 (some .int) :: ([.fieldLink RX10 97 "LuckyTicketModel" "taped" "I", .fieldLink RX10 100 "LuckyTicketModel" "size" "I", .fieldLink RX10 103 "LuckyTicketModel" "at" "I", .fieldLink RX10 134 "LuckyTicketModel" "faultKind" "I", .fieldLink RX10 30 "LuckyTicketModel" "faultPlace" "I", .methodLink RX10 155 yX10_advance, .instanceMethod yX10_advance, .selects RX10 yX10_advance yX10_advance, .initialized RX10, .code yX10_advance cX10_advance 2 none, .methodLink RX10 106 yX10_see, .instanceMethod yX10_see, .selects RX10 yX10_see yX10_see, .code yX10_see cX10_see 2 (some .int), .fieldLink RX10 110 "LuckyTicketModel" "from" "I", .fieldLink RX10 113 "LuckyTicketModel" "token" "I", .methodLink RX10 137 yX10_good, .instanceMethod yX10_good, .selects RX10 yX10_good yX10_good, .code yX10_good cX10_good 1 (some .boolean), .methodLink RX10 86 yX10_fillLuck, .instanceMethod yX10_fillLuck, .selects RX10 yX10_fillLuck yX10_fillLuck, .code yX10_fillLuck cX10_fillLuck 4 none, .fieldLink RX10 9 "LuckyTicketModel" "world" "[I", .fieldLink RX10 34 "LuckyTicketModel" "fresh" "[I"] ++ wsX100)
theorem iX10_roll_X10 : ∀ w ∈ wsX100, w ∈ uX10_roll := fun _ h => List.mem_cons_of_mem _ (List.mem_append_right _ h)
set_option maxRecDepth 20000 in
theorem gX10_roll__X10_advance_V155 : GoodIn uX10_roll (wsV RX10 155 RX10 yX10_advance uX10_advance) := goodIn_p _ [10, 14] rfl (by decide +kernel)
set_option maxRecDepth 20000 in
theorem gX10_roll__X10_good_V137 : GoodIn uX10_roll (wsV RX10 137 RX10 yX10_good uX10_good) := goodIn_p _ [20] rfl (by decide +kernel)
set_option maxRecDepth 20000 in
theorem gX10_roll__X10_fillLuck_V86 : GoodIn uX10_roll (wsV RX10 86 RX10 yX10_fillLuck uX10_fillLuck) := goodIn_p _ [24] rfl (by decide +kernel)
set_option maxHeartbeats 4000000 in
set_option maxRecDepth 100000 in
theorem kX10_roll (l : Launch) (dC : Nat → ClassId) (dI : Nat → Nat → Nat) (h0 : Nat) (m_world : Nat) (m_images : Nat) (m_hasImage : Nat) (m_luck : Nat) (m_tape : Nat) (m_five : Nat) (m_fresh : Nat) (m_waits : Nat) (m_figures : Nat) (m_pile : Nat) (m_times : Nat) (m_far : Nat) (m_queue : Nat) (m_months : Nat) (m_ways : Nat) (m_waysOn : Nat) (m_many : Nat) (m_width : Nat) (m_numbers : Nat) (m_moving : Nat) (cI : ClassId) (cF : ClassId) (fr : Nat → Int32) (sz : Nat) : Met l yX10_roll uX10_roll ({ frames := 2, cells := 0, slots := 0, locals := 42 }) (va_Pc [.ref h0] (hw (dC, dI) vwCl [(h0, .inr (8, [.int 0, .ref m_world, .ref m_images, .ref m_hasImage, .ref m_luck, .ref m_tape, .int 0, .ref m_five, .int 0, .int 0, .int 0, .int 0, .int 0, .int 0, .int (-1), .ref m_fresh, .ref m_waits, .int 0, .int 0, .int 0, .ref m_figures, .ref m_pile, .long 0, .ref m_times, .ref m_far, .ref m_queue, .ref m_months, .ref m_ways, .ref m_waysOn, .ref m_many, .ref m_width, .ref m_numbers, .ref m_moving])), (m_world, .inl (cI, 1875, .inl (fun _ => 0))), (m_fresh, .inl (cF, 1875, .inl fr))] [(cI, .int), (cF, .int)] sz)) (va_Qi (fun (r : Int32) (_ : Unit) => r = 0) (fun (_ : Unit) t => va_P (dC, dI) vwCl [] t.heap ∧ va_K (dC, dI) vwCl [] t ∧ va_D (va_A [(h0, .inr (8, [.int 0, .ref m_world, .ref m_images, .ref m_hasImage, .ref m_luck, .ref m_tape, .int 0, .ref m_five, .int 0, .int 0, .int 0, .int 0, .int 0, .int 0, .int (-1), .ref m_fresh, .ref m_waits, .int 0, .int 0, .int 0, .ref m_figures, .ref m_pile, .long 0, .ref m_times, .ref m_far, .ref m_queue, .ref m_months, .ref m_ways, .ref m_waysOn, .ref m_many, .ref m_width, .ref m_numbers, .ref m_moving])), (m_world, .inl (cI, 1875, .inl (fun _ => 0))), (m_fresh, .inl (cF, 1875, .inl fr))] sz) []) (va_A [(h0, .inr (8, [.int 0, .ref m_world, .ref m_images, .ref m_hasImage, .ref m_luck, .ref m_tape, .int 0, .ref m_five, .int 0, .int 0, .int 0, .int 0, .int 0, .int 0, .int (-1), .ref m_fresh, .ref m_waits, .int 0, .int 0, .int 0, .ref m_figures, .ref m_pile, .long 0, .ref m_times, .ref m_far, .ref m_queue, .ref m_months, .ref m_ways, .ref m_waysOn, .ref m_many, .ref m_width, .ref m_numbers, .ref m_moving])), (m_world, .inl (cI, 1875, .inl (fun _ => 0))), (m_fresh, .inl (cF, 1875, .inl fr))] sz)) 0 0 (va_A [(h0, .inr (8, [.int 0, .ref m_world, .ref m_images, .ref m_hasImage, .ref m_luck, .ref m_tape, .int 0, .ref m_five, .int 0, .int 0, .int 0, .int 0, .int 0, .int 0, .int (-1), .ref m_fresh, .ref m_waits, .int 0, .int 0, .int 0, .ref m_figures, .ref m_pile, .long 0, .ref m_times, .ref m_far, .ref m_queue, .ref m_months, .ref m_ways, .ref m_waysOn, .ref m_many, .ref m_width, .ref m_numbers, .ref m_moving])), (m_world, .inl (cI, 1875, .inl (fun _ => 0))), (m_fresh, .inl (cF, 1875, .inl fr))] sz) := by
  refine Met.ofW (cc := cX10_roll) (maxL := 2) (ret := (some .int)) (by decide) rfl ?_
  intro p e s m args below meth c s₁ B hml hv
  obtain ⟨rfl, hsz, hP, hK, hD0, hN⟩ := hv
  have hx := B.exec
  have hb := B.bytes
  have hr := B.returns
  have hts := atoms_spec (ws := uX10_roll) B.pre
  have hown : s.vm.findClass RX10 = some m.cls := findClass_of_methodNamed B.named
  have hlocks := B.notSynchronized
  subst hsz
  have hD := hD0.self (sz := s.heap.size)
  generalize hAe : va_A [(h0, .inr (8, [.int 0, .ref m_world, .ref m_images, .ref m_hasImage, .ref m_luck, .ref m_tape, .int 0, .ref m_five, .int 0, .int 0, .int 0, .int 0, .int 0, .int 0, .int (-1), .ref m_fresh, .ref m_waits, .int 0, .int 0, .int 0, .ref m_figures, .ref m_pile, .long 0, .ref m_times, .ref m_far, .ref m_queue, .ref m_months, .ref m_ways, .ref m_waysOn, .ref m_many, .ref m_width, .ref m_numbers, .ref m_moving])), (m_world, .inl (cI, 1875, .inl (fun _ => 0))), (m_fresh, .inl (cF, 1875, .inl fr))] s.heap.size = A at hD ⊢
  have hA : ∀ q : Nat, s.heap.size ≤ q → A q := fun q h => by rw [← hAe]; exact Or.inr h
  have hS : va_S A s.heap s.heap [] := va_S.rf
  have hP : va_P (dC, dI) vwCl [(h0, .inr (8, [.int 0, .ref m_world, .ref m_images, .ref m_hasImage, .ref m_luck, .ref m_tape, .int 0, .ref m_five, .int 0, .int 0, .int 0, .int 0, .int 0, .int 0, .int (-1), .ref m_fresh, .ref m_waits, .int 0, .int 0, .int 0, .ref m_figures, .ref m_pile, .long 0, .ref m_times, .ref m_far, .ref m_queue, .ref m_months, .ref m_ways, .ref m_waysOn, .ref m_many, .ref m_width, .ref m_numbers, .ref m_moving])), (m_world, .inl (cI, 1875, .inl (fun _ => 0))), (m_fresh, .inl (cF, 1875, .inl fr))] s.heap := hP
  have hl := lv_entry ([.ref h0]) (n := 2) (Nat.le_of_ble_eq_true rfl)
  rw [lg_entry_eq]
  generalize (lg_sl ([.ref h0]) ++ List.replicate (2 - (lg_sl ([.ref h0])).length) Slot.unset).toArray = ls at hl ⊢
  have hl : lv_has ls 2 [(0, .ref h0)] := hl
  refine lv_aload_n hx hb dX10_roll_0 rfl (lv_at hl 0 rfl) ?_
  refine lv_aload_n hx hb dX10_roll_1 rfl (lv_at hl 0 rfl) ?_
  refine va_get (D := (dC, dI)) (ci := 8) (v := .int 0) (C := RX10) (T := TX10) (N := 33) hx hb hts iX10_roll_X10 hown hK hP 0 rfl rfl 6 (by decide) (hts (.fieldLink RX10 97 "LuckyTicketModel" "taped" "I") (List.mem_of_getElem? (i := 1) rfl)) (fun _ h9 => h9) rfl dX10_roll_2 ?_
  refine va_put (D := (dC, dI)) (ci := 8) (v := .int 0) (ty := .int) (C := RX10) (T := TX10) (N := 33) hx hb hts iX10_roll_X10 tyX10 tyX10_ok nmX10 hown hK hP hD hS 0 rfl rfl 8 (by decide) (hts (.fieldLink RX10 100 "LuckyTicketModel" "size" "I") (List.mem_of_getElem? (i := 2) rfl)) (fun _ h9 => h9) rfl (by decide +kernel) rfl rfl (Nat.le_of_ble_eq_true rfl) dX10_roll_5 (fun H locs hP hD hS => ?_)
  have hP : va_P (dC, dI) vwCl [(h0, .inr (8, [.int 0, .ref m_world, .ref m_images, .ref m_hasImage, .ref m_luck, .ref m_tape, .int 0, .ref m_five, .int 0, .int 0, .int 0, .int 0, .int 0, .int 0, .int (-1), .ref m_fresh, .ref m_waits, .int 0, .int 0, .int 0, .ref m_figures, .ref m_pile, .long 0, .ref m_times, .ref m_far, .ref m_queue, .ref m_months, .ref m_ways, .ref m_waysOn, .ref m_many, .ref m_width, .ref m_numbers, .ref m_moving])), (m_world, .inl (cI, 1875, .inl (fun _ => 0))), (m_fresh, .inl (cF, 1875, .inl fr))] H := hP
  have hD : va_D A [(h0, .inr (8, [.int 0, .ref m_world, .ref m_images, .ref m_hasImage, .ref m_luck, .ref m_tape, .int 0, .ref m_five, .int 0, .int 0, .int 0, .int 0, .int 0, .int 0, .int (-1), .ref m_fresh, .ref m_waits, .int 0, .int 0, .int 0, .ref m_figures, .ref m_pile, .long 0, .ref m_times, .ref m_far, .ref m_queue, .ref m_months, .ref m_ways, .ref m_waysOn, .ref m_many, .ref m_width, .ref m_numbers, .ref m_moving])), (m_world, .inl (cI, 1875, .inl (fun _ => 0))), (m_fresh, .inl (cF, 1875, .inl fr))] := hD
  refine lv_aload_n hx hb dX10_roll_8 rfl (lv_at hl 0 rfl) ?_
  refine lv_iconst (v := 0) hx hb dX10_roll_9 (by decide) ?_
  refine va_put (D := (dC, dI)) (ci := 8) (v := .int 0) (ty := .int) (C := RX10) (T := TX10) (N := 33) hx hb hts iX10_roll_X10 tyX10 tyX10_ok nmX10 hown hK hP hD hS 0 rfl rfl 6 (by decide) (hts (.fieldLink RX10 97 "LuckyTicketModel" "taped" "I") (List.mem_of_getElem? (i := 1) rfl)) (fun _ h9 => h9) rfl (by decide +kernel) rfl rfl (Nat.le_of_ble_eq_true rfl) dX10_roll_10 (fun H locs hP hD hS => ?_)
  have hP : va_P (dC, dI) vwCl [(h0, .inr (8, [.int 0, .ref m_world, .ref m_images, .ref m_hasImage, .ref m_luck, .ref m_tape, .int 0, .ref m_five, .int 0, .int 0, .int 0, .int 0, .int 0, .int 0, .int (-1), .ref m_fresh, .ref m_waits, .int 0, .int 0, .int 0, .ref m_figures, .ref m_pile, .long 0, .ref m_times, .ref m_far, .ref m_queue, .ref m_months, .ref m_ways, .ref m_waysOn, .ref m_many, .ref m_width, .ref m_numbers, .ref m_moving])), (m_world, .inl (cI, 1875, .inl (fun _ => 0))), (m_fresh, .inl (cF, 1875, .inl fr))] H := hP
  have hD : va_D A [(h0, .inr (8, [.int 0, .ref m_world, .ref m_images, .ref m_hasImage, .ref m_luck, .ref m_tape, .int 0, .ref m_five, .int 0, .int 0, .int 0, .int 0, .int 0, .int 0, .int (-1), .ref m_fresh, .ref m_waits, .int 0, .int 0, .int 0, .ref m_figures, .ref m_pile, .long 0, .ref m_times, .ref m_far, .ref m_queue, .ref m_months, .ref m_ways, .ref m_waysOn, .ref m_many, .ref m_width, .ref m_numbers, .ref m_moving])), (m_world, .inl (cI, 1875, .inl (fun _ => 0))), (m_fresh, .inl (cF, 1875, .inl fr))] := hD
  refine lv_aload_n hx hb dX10_roll_13 rfl (lv_at hl 0 rfl) ?_
  refine lv_iconst (v := 0) hx hb dX10_roll_14 (by decide) ?_
  refine va_put (D := (dC, dI)) (ci := 8) (v := .int 0) (ty := .int) (C := RX10) (T := TX10) (N := 33) hx hb hts iX10_roll_X10 tyX10 tyX10_ok nmX10 hown hK hP hD hS 0 rfl rfl 9 (by decide) (hts (.fieldLink RX10 103 "LuckyTicketModel" "at" "I") (List.mem_of_getElem? (i := 3) rfl)) (fun _ h9 => h9) rfl (by decide +kernel) rfl rfl (Nat.le_of_ble_eq_true rfl) dX10_roll_15 (fun H locs hP hD hS => ?_)
  have hP : va_P (dC, dI) vwCl [(h0, .inr (8, [.int 0, .ref m_world, .ref m_images, .ref m_hasImage, .ref m_luck, .ref m_tape, .int 0, .ref m_five, .int 0, .int 0, .int 0, .int 0, .int 0, .int 0, .int (-1), .ref m_fresh, .ref m_waits, .int 0, .int 0, .int 0, .ref m_figures, .ref m_pile, .long 0, .ref m_times, .ref m_far, .ref m_queue, .ref m_months, .ref m_ways, .ref m_waysOn, .ref m_many, .ref m_width, .ref m_numbers, .ref m_moving])), (m_world, .inl (cI, 1875, .inl (fun _ => 0))), (m_fresh, .inl (cF, 1875, .inl fr))] H := hP
  have hD : va_D A [(h0, .inr (8, [.int 0, .ref m_world, .ref m_images, .ref m_hasImage, .ref m_luck, .ref m_tape, .int 0, .ref m_five, .int 0, .int 0, .int 0, .int 0, .int 0, .int 0, .int (-1), .ref m_fresh, .ref m_waits, .int 0, .int 0, .int 0, .ref m_figures, .ref m_pile, .long 0, .ref m_times, .ref m_far, .ref m_queue, .ref m_months, .ref m_ways, .ref m_waysOn, .ref m_many, .ref m_width, .ref m_numbers, .ref m_moving])), (m_world, .inl (cI, 1875, .inl (fun _ => 0))), (m_fresh, .inl (cF, 1875, .inl fr))] := hD
  refine lv_aload_n hx hb dX10_roll_18 rfl (lv_at hl 0 rfl) ?_
  refine lv_iconst (v := 0) hx hb dX10_roll_19 (by decide) ?_
  refine va_put (D := (dC, dI)) (ci := 8) (v := .int 0) (ty := .int) (C := RX10) (T := TX10) (N := 33) hx hb hts iX10_roll_X10 tyX10 tyX10_ok nmX10 hown hK hP hD hS 0 rfl rfl 13 (by decide) (hts (.fieldLink RX10 134 "LuckyTicketModel" "faultKind" "I") (List.mem_of_getElem? (i := 4) rfl)) (fun _ h9 => h9) rfl (by decide +kernel) rfl rfl (Nat.le_of_ble_eq_true rfl) dX10_roll_20 (fun H locs hP hD hS => ?_)
  have hP : va_P (dC, dI) vwCl [(h0, .inr (8, [.int 0, .ref m_world, .ref m_images, .ref m_hasImage, .ref m_luck, .ref m_tape, .int 0, .ref m_five, .int 0, .int 0, .int 0, .int 0, .int 0, .int 0, .int (-1), .ref m_fresh, .ref m_waits, .int 0, .int 0, .int 0, .ref m_figures, .ref m_pile, .long 0, .ref m_times, .ref m_far, .ref m_queue, .ref m_months, .ref m_ways, .ref m_waysOn, .ref m_many, .ref m_width, .ref m_numbers, .ref m_moving])), (m_world, .inl (cI, 1875, .inl (fun _ => 0))), (m_fresh, .inl (cF, 1875, .inl fr))] H := hP
  have hD : va_D A [(h0, .inr (8, [.int 0, .ref m_world, .ref m_images, .ref m_hasImage, .ref m_luck, .ref m_tape, .int 0, .ref m_five, .int 0, .int 0, .int 0, .int 0, .int 0, .int 0, .int (-1), .ref m_fresh, .ref m_waits, .int 0, .int 0, .int 0, .ref m_figures, .ref m_pile, .long 0, .ref m_times, .ref m_far, .ref m_queue, .ref m_months, .ref m_ways, .ref m_waysOn, .ref m_many, .ref m_width, .ref m_numbers, .ref m_moving])), (m_world, .inl (cI, 1875, .inl (fun _ => 0))), (m_fresh, .inl (cF, 1875, .inl fr))] := hD
  refine lv_aload_n hx hb dX10_roll_23 rfl (lv_at hl 0 rfl) ?_
  refine lv_iconst (v := (-1)) hx hb dX10_roll_24 (by decide) ?_
  refine va_put (D := (dC, dI)) (ci := 8) (v := .int (-1)) (ty := .int) (C := RX10) (T := TX10) (N := 33) hx hb hts iX10_roll_X10 tyX10 tyX10_ok nmX10 hown hK hP hD hS 0 rfl rfl 14 (by decide) (hts (.fieldLink RX10 30 "LuckyTicketModel" "faultPlace" "I") (List.mem_of_getElem? (i := 5) rfl)) (fun _ h9 => h9) rfl (by decide +kernel) rfl rfl (Nat.le_of_ble_eq_true rfl) dX10_roll_25 (fun H locs hP hD hS => ?_)
  have hP : va_P (dC, dI) vwCl [(h0, .inr (8, [.int 0, .ref m_world, .ref m_images, .ref m_hasImage, .ref m_luck, .ref m_tape, .int 0, .ref m_five, .int 0, .int 0, .int 0, .int 0, .int 0, .int 0, .int (-1), .ref m_fresh, .ref m_waits, .int 0, .int 0, .int 0, .ref m_figures, .ref m_pile, .long 0, .ref m_times, .ref m_far, .ref m_queue, .ref m_months, .ref m_ways, .ref m_waysOn, .ref m_many, .ref m_width, .ref m_numbers, .ref m_moving])), (m_world, .inl (cI, 1875, .inl (fun _ => 0))), (m_fresh, .inl (cF, 1875, .inl fr))] H := hP
  have hD : va_D A [(h0, .inr (8, [.int 0, .ref m_world, .ref m_images, .ref m_hasImage, .ref m_luck, .ref m_tape, .int 0, .ref m_five, .int 0, .int 0, .int 0, .int 0, .int 0, .int 0, .int (-1), .ref m_fresh, .ref m_waits, .int 0, .int 0, .int 0, .ref m_figures, .ref m_pile, .long 0, .ref m_times, .ref m_far, .ref m_queue, .ref m_months, .ref m_ways, .ref m_waysOn, .ref m_many, .ref m_width, .ref m_numbers, .ref m_moving])), (m_world, .inl (cI, 1875, .inl (fun _ => 0))), (m_fresh, .inl (cF, 1875, .inl fr))] := hD
  refine lv_iconst (v := 0) hx hb dX10_roll_28 (by decide) ?_
  refine lv_istore_n (lv' := [(1, .int 0), (0, .ref h0)]) hx hb dX10_roll_29 rfl hl (by decide) rfl (fun ls hl => ?_)
  refine loopW (σ := Nat × (Nat → Int32)) (fun v => 1875 - v.1) (fun v H locs ls => (v.1 ≤ 1875) ∧ (∀ j, j < v.1 → v.2 j = 0) ∧ va_P (dC, dI) vwCl [(h0, .inr (8, [.int 0, .ref m_world, .ref m_images, .ref m_hasImage, .ref m_luck, .ref m_tape, .int 0, .ref m_five, .int 0, .int 0, .int 0, .int 0, .int 0, .int 0, .int (-1), .ref m_fresh, .ref m_waits, .int 0, .int 0, .int 0, .ref m_figures, .ref m_pile, .long 0, .ref m_times, .ref m_far, .ref m_queue, .ref m_months, .ref m_ways, .ref m_waysOn, .ref m_many, .ref m_width, .ref m_numbers, .ref m_moving])), (m_world, .inl (cI, 1875, .inl (fun _ => 0))), (m_fresh, .inl (cF, 1875, .inl v.2))] H ∧ va_D A [(h0, .inr (8, [.int 0, .ref m_world, .ref m_images, .ref m_hasImage, .ref m_luck, .ref m_tape, .int 0, .ref m_five, .int 0, .int 0, .int 0, .int 0, .int 0, .int 0, .int (-1), .ref m_fresh, .ref m_waits, .int 0, .int 0, .int 0, .ref m_figures, .ref m_pile, .long 0, .ref m_times, .ref m_far, .ref m_queue, .ref m_months, .ref m_ways, .ref m_waysOn, .ref m_many, .ref m_width, .ref m_numbers, .ref m_moving])), (m_world, .inl (cI, 1875, .inl (fun _ => 0))), (m_fresh, .inl (cF, 1875, .inl v.2))] ∧ va_S A s.heap H locs ∧ lv_has ls 2 [(1, .int (nI v.1)), (0, .ref h0)]) (fun v H locs ls hI ih => ?_) (0, fr) ⟨(show 0 ≤ 1875 from Nat.zero_le _), (show ∀ j, j < 0 → fr j = 0 from (fun j hj => absurd hj (Nat.not_lt_zero j))), hP, hD, hS, hl⟩
  obtain ⟨i, f1⟩ := v
  obtain ⟨hi, hfi, hP, hD, hS, hl⟩ := hI
  have hi : i ≤ 1875 := hi
  have hfi : ∀ j, j < i → f1 j = 0 := hfi
  have hP : va_P (dC, dI) vwCl [(h0, .inr (8, [.int 0, .ref m_world, .ref m_images, .ref m_hasImage, .ref m_luck, .ref m_tape, .int 0, .ref m_five, .int 0, .int 0, .int 0, .int 0, .int 0, .int 0, .int (-1), .ref m_fresh, .ref m_waits, .int 0, .int 0, .int 0, .ref m_figures, .ref m_pile, .long 0, .ref m_times, .ref m_far, .ref m_queue, .ref m_months, .ref m_ways, .ref m_waysOn, .ref m_many, .ref m_width, .ref m_numbers, .ref m_moving])), (m_world, .inl (cI, 1875, .inl (fun _ => 0))), (m_fresh, .inl (cF, 1875, .inl f1))] H := hP
  have hD : va_D A [(h0, .inr (8, [.int 0, .ref m_world, .ref m_images, .ref m_hasImage, .ref m_luck, .ref m_tape, .int 0, .ref m_five, .int 0, .int 0, .int 0, .int 0, .int 0, .int 0, .int (-1), .ref m_fresh, .ref m_waits, .int 0, .int 0, .int 0, .ref m_figures, .ref m_pile, .long 0, .ref m_times, .ref m_far, .ref m_queue, .ref m_months, .ref m_ways, .ref m_waysOn, .ref m_many, .ref m_width, .ref m_numbers, .ref m_moving])), (m_world, .inl (cI, 1875, .inl (fun _ => 0))), (m_fresh, .inl (cF, 1875, .inl f1))] := hD
  have hl : lv_has ls 2 [(1, .int (nI i)), (0, .ref h0)] := hl
  refine lv_iload_n hx hb dX10_roll_30 rfl (lv_at hl 0 rfl) ?_
  refine lv_sipush (v := 1875) hx hb dX10_roll_31 (by decide) ?_
  refine lv_icmp_ge (tgt := 50) hx hb dX10_roll_34 (by decide) (fun c_1 => ?_) (fun c_1 => ?_)
  ·
    have hge : 1875 ≤ i := (nI_leI (a := 1875) (b := i) (by decide) (by omega)).mp c_1
    have hP := P_i (g := fun _ => 0) 2 hP rfl (fun j hj => hfi j (Nat.lt_of_lt_of_le hj hge))
    have hD := D_i (y := .inl (cF, 1875, .inl (fun _ => 0))) 2 hD rfl
    have hP : va_P (dC, dI) vwCl [(h0, .inr (8, [.int 0, .ref m_world, .ref m_images, .ref m_hasImage, .ref m_luck, .ref m_tape, .int 0, .ref m_five, .int 0, .int 0, .int 0, .int 0, .int 0, .int 0, .int (-1), .ref m_fresh, .ref m_waits, .int 0, .int 0, .int 0, .ref m_figures, .ref m_pile, .long 0, .ref m_times, .ref m_far, .ref m_queue, .ref m_months, .ref m_ways, .ref m_waysOn, .ref m_many, .ref m_width, .ref m_numbers, .ref m_moving])), (m_world, .inl (cI, 1875, .inl (fun _ => 0))), (m_fresh, .inl (cF, 1875, .inl (fun _ => 0)))] H := hP
    have hD : va_D A [(h0, .inr (8, [.int 0, .ref m_world, .ref m_images, .ref m_hasImage, .ref m_luck, .ref m_tape, .int 0, .ref m_five, .int 0, .int 0, .int 0, .int 0, .int 0, .int 0, .int (-1), .ref m_fresh, .ref m_waits, .int 0, .int 0, .int 0, .ref m_figures, .ref m_pile, .long 0, .ref m_times, .ref m_far, .ref m_queue, .ref m_months, .ref m_ways, .ref m_waysOn, .ref m_many, .ref m_width, .ref m_numbers, .ref m_moving])), (m_world, .inl (cI, 1875, .inl (fun _ => 0))), (m_fresh, .inl (cF, 1875, .inl (fun _ => 0)))] := hD
    refine lv_aload_n hx hb dX10_roll_50 rfl (lv_at hl 1 rfl) ?_
    have hFc := va_free (wc := [(h0, .inr (8, [.int 0, .ref m_world, .ref m_images, .ref m_hasImage, .ref m_luck, .ref m_tape, .int 0, .ref m_five, .int 0, .int 0, .int 0, .int 0, .int 0, .int 0, .int (-1), .ref m_fresh, .ref m_waits, .int 0, .int 0, .int 0, .ref m_figures, .ref m_pile, .long 0, .ref m_times, .ref m_far, .ref m_queue, .ref m_months, .ref m_ways, .ref m_waysOn, .ref m_many, .ref m_width, .ref m_numbers, .ref m_moving]))]) hD hS hA [0] rfl
    refine va_callv (va_runV (As := []) (rest := []) ⟨hx, hb, hml, hown, hts⟩ (kX10_advance l dC dI h0 m_world m_images m_hasImage m_luck m_tape m_five m_fresh m_waits m_figures m_pile m_times m_far m_queue m_months m_ways m_waysOn m_many m_width m_numbers m_moving (H.size)) (cwV 0 hts gX10_roll__X10_advance_V155 rfl rfl rfl (by decide +kernel) ⟨lel 2 2 rfl, lel 42 42 rfl⟩) ⟨hw_fb, va_recv hK hP (ci := 8) (q0 := 0) rfl rfl, (hw_use hP hD hK hN [0] rfl (by decide) rfl [] rfl)⟩ rfl rfl hl.1 rfl (lv_room (Nat.le_of_ble_eq_true rfl)) dX10_roll_51 ⟨lel 0 0 rfl, lel 0 0 rfl⟩) hS (fun q _ h => hFc q h) hFc (fun u_3 t H1 locs ht hvm hwr_2 hB hz1 hk1 hS => ?_)
    obtain ⟨hP1, hK1, hD1⟩ := hB
    rw [ht] at hP1
    have hK1 := va_K.moved hvm.symm hK1
    obtain ⟨hP, hD⟩ := va_join (wr := [(m_world, .inl (cI, 1875, .inl (fun _ => 0))), (m_fresh, .inl (cF, 1875, .inl (fun _ => 0)))]) (w1 := [(h0, .inr (8, [.int 0, .ref m_world, .ref m_images, .ref m_hasImage, .ref m_luck, .ref m_tape, .int 0, .ref m_five, .int 0, .int 0, .int 0, .int 0, .int 0, .int 0, .int (-1), .ref m_fresh, .ref m_waits, .int 0, .int 0, .int 0, .ref m_figures, .ref m_pile, .long 0, .ref m_times, .ref m_far, .ref m_queue, .ref m_months, .ref m_ways, .ref m_waysOn, .ref m_many, .ref m_width, .ref m_numbers, .ref m_moving]))]) hP hD [0] [1, 2] rfl rfl (by decide) (by decide) hk1 hFc hP1 hD1
    have hK := (hK.sub (tys' := [(cI, .int), (cF, .int)]) [0, 1] rfl).app hK1
    generalize H1 = H at hP hS ⊢
    have hP : va_P (dC, dI) vwCl [(m_world, .inl (cI, 1875, .inl (fun _ => 0))), (m_fresh, .inl (cF, 1875, .inl (fun _ => 0))), (h0, .inr (8, [.int 0, .ref m_world, .ref m_images, .ref m_hasImage, .ref m_luck, .ref m_tape, .int 0, .ref m_five, .int 0, .int 0, .int 0, .int 0, .int 0, .int 0, .int (-1), .ref m_fresh, .ref m_waits, .int 0, .int 0, .int 0, .ref m_figures, .ref m_pile, .long 0, .ref m_times, .ref m_far, .ref m_queue, .ref m_months, .ref m_ways, .ref m_waysOn, .ref m_many, .ref m_width, .ref m_numbers, .ref m_moving]))] H := hP
    have hD : va_D A [(m_world, .inl (cI, 1875, .inl (fun _ => 0))), (m_fresh, .inl (cF, 1875, .inl (fun _ => 0))), (h0, .inr (8, [.int 0, .ref m_world, .ref m_images, .ref m_hasImage, .ref m_luck, .ref m_tape, .int 0, .ref m_five, .int 0, .int 0, .int 0, .int 0, .int 0, .int 0, .int (-1), .ref m_fresh, .ref m_waits, .int 0, .int 0, .int 0, .ref m_figures, .ref m_pile, .long 0, .ref m_times, .ref m_far, .ref m_queue, .ref m_months, .ref m_ways, .ref m_waysOn, .ref m_many, .ref m_width, .ref m_numbers, .ref m_moving]))] := hD
    have hK : va_K (dC, dI) vwCl [(cI, .int), (cF, .int)] s := hK
    refine lv_aload_n hx hb dX10_roll_54 rfl (lv_at hl 1 rfl) ?_
    refine vp_callSi (W.runV (As := []) (rest := []) ⟨hx, hb, hml, hown, hts⟩ (kX10_good l dC dI h0 m_world m_images m_hasImage m_luck m_tape m_five m_fresh m_waits m_figures m_pile m_times m_far m_queue m_months m_ways m_waysOn m_many m_width m_numbers m_moving) (cwV 0 hts gX10_roll__X10_good_V137 rfl rfl rfl (by decide +kernel) ⟨lel 1 2 rfl, lel 20 42 rfl⟩) ⟨pw_fb, va_recv hK hP (ci := 8) (q0 := 2) rfl rfl, (pw_use hP hK hN [2] rfl [] rfl)⟩ rfl rfl hl.1 rfl (lv_room (Nat.le_of_ble_eq_true rfl)) dX10_roll_55 ⟨lel 0 0 rfl, lel 0 0 rfl⟩) (fun r_4 hr_4 => ?_)
    obtain rfl : r_4 = 1 := hr_4
    refine lv_if_eq (tgt := 75) hx hb dX10_roll_58 (by decide) (fun c_5 => absurd c_5 (by decide)) (fun _ => ?_)
    refine lv_aload_n hx hb dX10_roll_61 rfl (lv_at hl 1 rfl) ?_
    refine va_get (D := (dC, dI)) (ci := 8) (v := .int 0) (C := RX10) (T := TX10) (N := 33) hx hb hts iX10_roll_X10 hown hK hP 2 rfl rfl 11 (by decide) (hts (.fieldLink RX10 113 "LuckyTicketModel" "token" "I") (List.mem_of_getElem? (i := 16) rfl)) (fun _ h9 => h9) rfl dX10_roll_62 ?_
    refine lv_if_eq (tgt := 75) hx hb dX10_roll_65 (by decide) (fun _ => ?_) (fun c_6 => absurd c_6 (by decide))
    refine lv_aload_n hx hb dX10_roll_75 rfl (lv_at hl 1 rfl) ?_
    refine vp_callSi (W.runV (As := []) (rest := []) ⟨hx, hb, hml, hown, hts⟩ (kX10_good l dC dI h0 m_world m_images m_hasImage m_luck m_tape m_five m_fresh m_waits m_figures m_pile m_times m_far m_queue m_months m_ways m_waysOn m_many m_width m_numbers m_moving) (cwV 0 hts gX10_roll__X10_good_V137 rfl rfl rfl (by decide +kernel) ⟨lel 1 2 rfl, lel 20 42 rfl⟩) ⟨pw_fb, va_recv hK hP (ci := 8) (q0 := 2) rfl rfl, (pw_use hP hK hN [2] rfl [] rfl)⟩ rfl rfl hl.1 rfl (lv_room (Nat.le_of_ble_eq_true rfl)) dX10_roll_76 ⟨lel 0 0 rfl, lel 0 0 rfl⟩) (fun r_7 hr_7 => ?_)
    obtain rfl : r_7 = 1 := hr_7
    refine lv_if_ne (tgt := 85) hx hb dX10_roll_79 (by decide) (fun _ => ?_) (fun c_8 => absurd c_8 (by decide))
    refine lv_iconst (v := 0) hx hb dX10_roll_85 (by decide) ?_
    refine lv_istore_n (lv' := [(1, .int 0), (0, .ref h0)]) hx hb dX10_roll_86 rfl hl (by decide) rfl (fun ls hl => ?_)
    refine loopW (σ := Nat × (Nat → Int32)) (fun v => 1875 - v.1) (fun v H locs ls => (v.1 ≤ 1875) ∧ (∀ j, j < 1875 → v.2 j = 0) ∧ va_P (dC, dI) vwCl [(m_world, .inl (cI, 1875, .inl v.2)), (m_fresh, .inl (cF, 1875, .inl (fun _ => 0))), (h0, .inr (8, [.int 0, .ref m_world, .ref m_images, .ref m_hasImage, .ref m_luck, .ref m_tape, .int 0, .ref m_five, .int 0, .int 0, .int 0, .int 0, .int 0, .int 0, .int (-1), .ref m_fresh, .ref m_waits, .int 0, .int 0, .int 0, .ref m_figures, .ref m_pile, .long 0, .ref m_times, .ref m_far, .ref m_queue, .ref m_months, .ref m_ways, .ref m_waysOn, .ref m_many, .ref m_width, .ref m_numbers, .ref m_moving]))] H ∧ va_D A [(m_world, .inl (cI, 1875, .inl v.2)), (m_fresh, .inl (cF, 1875, .inl (fun _ => 0))), (h0, .inr (8, [.int 0, .ref m_world, .ref m_images, .ref m_hasImage, .ref m_luck, .ref m_tape, .int 0, .ref m_five, .int 0, .int 0, .int 0, .int 0, .int 0, .int 0, .int (-1), .ref m_fresh, .ref m_waits, .int 0, .int 0, .int 0, .ref m_figures, .ref m_pile, .long 0, .ref m_times, .ref m_far, .ref m_queue, .ref m_months, .ref m_ways, .ref m_waysOn, .ref m_many, .ref m_width, .ref m_numbers, .ref m_moving]))] ∧ va_S A s.heap H locs ∧ lv_has ls 2 [(1, .int (nI v.1)), (0, .ref h0)]) (fun v H locs ls hI ih => ?_) (0, (fun _ => 0)) ⟨(show 0 ≤ 1875 from Nat.zero_le _), (show ∀ j, j < 1875 → ((fun _ => 0)) j = 0 from (fun _ _ => rfl)), hP, hD, hS, hl⟩
    obtain ⟨i2, f2⟩ := v
    obtain ⟨hi2, hw2, hP, hD, hS, hl⟩ := hI
    have hi2 : i2 ≤ 1875 := hi2
    have hw2 : ∀ j, j < 1875 → f2 j = 0 := hw2
    have hP : va_P (dC, dI) vwCl [(m_world, .inl (cI, 1875, .inl f2)), (m_fresh, .inl (cF, 1875, .inl (fun _ => 0))), (h0, .inr (8, [.int 0, .ref m_world, .ref m_images, .ref m_hasImage, .ref m_luck, .ref m_tape, .int 0, .ref m_five, .int 0, .int 0, .int 0, .int 0, .int 0, .int 0, .int (-1), .ref m_fresh, .ref m_waits, .int 0, .int 0, .int 0, .ref m_figures, .ref m_pile, .long 0, .ref m_times, .ref m_far, .ref m_queue, .ref m_months, .ref m_ways, .ref m_waysOn, .ref m_many, .ref m_width, .ref m_numbers, .ref m_moving]))] H := hP
    have hD : va_D A [(m_world, .inl (cI, 1875, .inl f2)), (m_fresh, .inl (cF, 1875, .inl (fun _ => 0))), (h0, .inr (8, [.int 0, .ref m_world, .ref m_images, .ref m_hasImage, .ref m_luck, .ref m_tape, .int 0, .ref m_five, .int 0, .int 0, .int 0, .int 0, .int 0, .int 0, .int (-1), .ref m_fresh, .ref m_waits, .int 0, .int 0, .int 0, .ref m_figures, .ref m_pile, .long 0, .ref m_times, .ref m_far, .ref m_queue, .ref m_months, .ref m_ways, .ref m_waysOn, .ref m_many, .ref m_width, .ref m_numbers, .ref m_moving]))] := hD
    have hl : lv_has ls 2 [(1, .int (nI i2)), (0, .ref h0)] := hl
    refine lv_iload_n hx hb dX10_roll_87 rfl (lv_at hl 0 rfl) ?_
    refine lv_sipush (v := 1875) hx hb dX10_roll_88 (by decide) ?_
    refine lv_icmp_ge (tgt := 112) hx hb dX10_roll_91 (by decide) (fun c_9 => ?_) (fun c_9 => ?_)
    ·
      have hge2 : 1875 ≤ i2 := (nI_leI (a := 1875) (b := i2) (by decide) (by omega)).mp c_9
      have hP := P_i (g := fun _ => 0) 0 hP rfl (hw2)
      have hD := D_i (y := .inl (cI, 1875, .inl (fun _ => 0))) 0 hD rfl
      have hP : va_P (dC, dI) vwCl [(m_world, .inl (cI, 1875, .inl (fun _ => 0))), (m_fresh, .inl (cF, 1875, .inl (fun _ => 0))), (h0, .inr (8, [.int 0, .ref m_world, .ref m_images, .ref m_hasImage, .ref m_luck, .ref m_tape, .int 0, .ref m_five, .int 0, .int 0, .int 0, .int 0, .int 0, .int 0, .int (-1), .ref m_fresh, .ref m_waits, .int 0, .int 0, .int 0, .ref m_figures, .ref m_pile, .long 0, .ref m_times, .ref m_far, .ref m_queue, .ref m_months, .ref m_ways, .ref m_waysOn, .ref m_many, .ref m_width, .ref m_numbers, .ref m_moving]))] H := hP
      have hD : va_D A [(m_world, .inl (cI, 1875, .inl (fun _ => 0))), (m_fresh, .inl (cF, 1875, .inl (fun _ => 0))), (h0, .inr (8, [.int 0, .ref m_world, .ref m_images, .ref m_hasImage, .ref m_luck, .ref m_tape, .int 0, .ref m_five, .int 0, .int 0, .int 0, .int 0, .int 0, .int 0, .int (-1), .ref m_fresh, .ref m_waits, .int 0, .int 0, .int 0, .ref m_figures, .ref m_pile, .long 0, .ref m_times, .ref m_far, .ref m_queue, .ref m_months, .ref m_ways, .ref m_waysOn, .ref m_many, .ref m_width, .ref m_numbers, .ref m_moving]))] := hD
      refine lv_aload_n hx hb dX10_roll_112 rfl (lv_at hl 1 rfl) ?_
      have hFc := va_free (wc := [(h0, .inr (8, [.int 0, .ref m_world, .ref m_images, .ref m_hasImage, .ref m_luck, .ref m_tape, .int 0, .ref m_five, .int 0, .int 0, .int 0, .int 0, .int 0, .int 0, .int (-1), .ref m_fresh, .ref m_waits, .int 0, .int 0, .int 0, .ref m_figures, .ref m_pile, .long 0, .ref m_times, .ref m_far, .ref m_queue, .ref m_months, .ref m_ways, .ref m_waysOn, .ref m_many, .ref m_width, .ref m_numbers, .ref m_moving])), (m_world, .inl (cI, 1875, .inl (fun _ => 0)))]) hD hS hA [2, 0] rfl
      refine va_callv (va_runV (As := []) (rest := []) ⟨hx, hb, hml, hown, hts⟩ (kX10_fillLuck l dC dI h0 m_world m_images m_hasImage m_luck m_tape m_five m_fresh m_waits m_figures m_pile m_times m_far m_queue m_months m_ways m_waysOn m_many m_width m_numbers m_moving cI (H.size)) (cwV 0 hts gX10_roll__X10_fillLuck_V86 rfl rfl rfl (by decide +kernel) ⟨lel 1 2 rfl, lel 23 42 rfl⟩) ⟨hw_fb, va_recv hK hP (ci := 8) (q0 := 2) rfl rfl, (hw_use hP hD hK hN [2, 0] rfl (by decide) rfl [0] rfl)⟩ rfl rfl hl.1 rfl (lv_room (Nat.le_of_ble_eq_true rfl)) dX10_roll_113 ⟨lel 0 0 rfl, lel 0 0 rfl⟩) hS (fun q _ h => hFc q h) hFc (fun u_11 t H1 locs ht hvm hwr_10 hB hz1 hk1 hS => ?_)
      obtain ⟨hP1, hK1, hD1⟩ := hB
      rw [ht] at hP1
      have hK1 := va_K.moved hvm.symm hK1
      obtain ⟨hP, hD⟩ := va_join (wr := [(m_fresh, .inl (cF, 1875, .inl (fun _ => 0)))]) (w1 := [(h0, .inr (8, [.int 0, .ref m_world, .ref m_images, .ref m_hasImage, .ref m_luck, .ref m_tape, .int 0, .ref m_five, .int 0, .int 0, .int 0, .int 0, .int 0, .int 0, .int (-1), .ref m_fresh, .ref m_waits, .int 0, .int 0, .int 0, .ref m_figures, .ref m_pile, .long 0, .ref m_times, .ref m_far, .ref m_queue, .ref m_months, .ref m_ways, .ref m_waysOn, .ref m_many, .ref m_width, .ref m_numbers, .ref m_moving])), (m_world, .inl (cI, 1875, .inl (fun _ => 0)))]) hP hD [2, 0] [1] rfl rfl (by decide) (by decide) hk1 hFc hP1 hD1
      have hK := (hK.sub (tys' := [(cF, .int)]) [1] rfl).app hK1
      generalize H1 = H at hP hS ⊢
      have hP : va_P (dC, dI) vwCl [(m_fresh, .inl (cF, 1875, .inl (fun _ => 0))), (h0, .inr (8, [.int 0, .ref m_world, .ref m_images, .ref m_hasImage, .ref m_luck, .ref m_tape, .int 0, .ref m_five, .int 0, .int 0, .int 0, .int 0, .int 0, .int 0, .int (-1), .ref m_fresh, .ref m_waits, .int 0, .int 0, .int 0, .ref m_figures, .ref m_pile, .long 0, .ref m_times, .ref m_far, .ref m_queue, .ref m_months, .ref m_ways, .ref m_waysOn, .ref m_many, .ref m_width, .ref m_numbers, .ref m_moving])), (m_world, .inl (cI, 1875, .inl (fun _ => 0)))] H := hP
      have hD : va_D A [(m_fresh, .inl (cF, 1875, .inl (fun _ => 0))), (h0, .inr (8, [.int 0, .ref m_world, .ref m_images, .ref m_hasImage, .ref m_luck, .ref m_tape, .int 0, .ref m_five, .int 0, .int 0, .int 0, .int 0, .int 0, .int 0, .int (-1), .ref m_fresh, .ref m_waits, .int 0, .int 0, .int 0, .ref m_figures, .ref m_pile, .long 0, .ref m_times, .ref m_far, .ref m_queue, .ref m_months, .ref m_ways, .ref m_waysOn, .ref m_many, .ref m_width, .ref m_numbers, .ref m_moving])), (m_world, .inl (cI, 1875, .inl (fun _ => 0)))] := hD
      have hK : va_K (dC, dI) vwCl [(cF, .int), (cI, .int)] s := hK
      refine lv_aload_n hx hb dX10_roll_116 rfl (lv_at hl 1 rfl) ?_
      refine va_get (D := (dC, dI)) (ci := 8) (v := .ref m_world) (C := RX10) (T := TX10) (N := 33) hx hb hts iX10_roll_X10 hown hK hP 1 rfl rfl 1 (by decide) (hts (.fieldLink RX10 9 "LuckyTicketModel" "world" "[I") (List.mem_of_getElem? (i := 25) rfl)) (fun _ h9 => h9) rfl dX10_roll_117 ?_
      refine lv_iconst (v := 4) hx hb dX10_roll_120 (by decide) ?_
      refine va_iald hx hb hK hP 2 1 rfl rfl (vp_in_lit (by decide)) dX10_roll_121 ?_
      refine lv_topi (fun z_12 ez_12 => ?_)
      obtain rfl : z_12 = 0 := ez_12
      have hP9 := hP.sub (ws' := []) [] rfl
      have hD9 := hD.sub (ws' := []) [] (by decide) rfl
      have hK9 := hK.sub (tys' := []) [] rfl
      exact W.iret (v := 0) hx hb hr (fun t ht hW => ⟨⟨0, (), rfl, rfl, by rw [ht]; exact hP9, va_K.moved hW.alike hK9, hD9⟩, hS.F ht⟩) hS.2.2 dX10_roll_122
    ·
      have hlt2 : i2 < 1875 := Nat.lt_of_not_le (fun q => c_9 ((nI_leI (a := 1875) (b := i2) (by decide) (by omega)).mpr q))
      refine lv_aload_n hx hb dX10_roll_94 rfl (lv_at hl 1 rfl) ?_
      refine va_get (D := (dC, dI)) (ci := 8) (v := .ref m_world) (C := RX10) (T := TX10) (N := 33) hx hb hts iX10_roll_X10 hown hK hP 2 rfl rfl 1 (by decide) (hts (.fieldLink RX10 9 "LuckyTicketModel" "world" "[I") (List.mem_of_getElem? (i := 25) rfl)) (fun _ h9 => h9) rfl dX10_roll_95 ?_
      refine lv_iload_n hx hb dX10_roll_98 rfl (lv_at hl 0 rfl) ?_
      refine lv_aload_n hx hb dX10_roll_99 rfl (lv_at hl 1 rfl) ?_
      refine va_get (D := (dC, dI)) (ci := 8) (v := .ref m_fresh) (C := RX10) (T := TX10) (N := 33) hx hb hts iX10_roll_X10 hown hK hP 2 rfl rfl 15 (by decide) (hts (.fieldLink RX10 34 "LuckyTicketModel" "fresh" "[I") (List.mem_of_getElem? (i := 26) rfl)) (fun _ h9 => h9) rfl dX10_roll_100 ?_
      refine lv_iload_n hx hb dX10_roll_103 rfl (lv_at hl 0 rfl) ?_
      refine va_iald hx hb hK hP 1 1 rfl rfl (vp_in_nI hlt2 (by decide)) dX10_roll_104 ?_
      refine lv_topi (fun z_13 ez_13 => ?_)
      obtain rfl : z_13 = 0 := ez_13
      refine va_iast hx hb hK hP hD hS 0 0 rfl rfl (vp_in_nI hlt2 (by decide)) dX10_roll_105 (fun H locs hP hD hS => ?_)
      have hP : va_P (dC, dI) vwCl [(m_world, .inl (cI, 1875, .inl (upd f2 ((nI i2) : Int32).toNatClampNeg 0))), (m_fresh, .inl (cF, 1875, .inl (fun _ => 0))), (h0, .inr (8, [.int 0, .ref m_world, .ref m_images, .ref m_hasImage, .ref m_luck, .ref m_tape, .int 0, .ref m_five, .int 0, .int 0, .int 0, .int 0, .int 0, .int 0, .int (-1), .ref m_fresh, .ref m_waits, .int 0, .int 0, .int 0, .ref m_figures, .ref m_pile, .long 0, .ref m_times, .ref m_far, .ref m_queue, .ref m_months, .ref m_ways, .ref m_waysOn, .ref m_many, .ref m_width, .ref m_numbers, .ref m_moving]))] H := hP
      have hD : va_D A [(m_world, .inl (cI, 1875, .inl (upd f2 ((nI i2) : Int32).toNatClampNeg 0))), (m_fresh, .inl (cF, 1875, .inl (fun _ => 0))), (h0, .inr (8, [.int 0, .ref m_world, .ref m_images, .ref m_hasImage, .ref m_luck, .ref m_tape, .int 0, .ref m_five, .int 0, .int 0, .int 0, .int 0, .int 0, .int 0, .int (-1), .ref m_fresh, .ref m_waits, .int 0, .int 0, .int 0, .ref m_figures, .ref m_pile, .long 0, .ref m_times, .ref m_far, .ref m_queue, .ref m_months, .ref m_ways, .ref m_waysOn, .ref m_many, .ref m_width, .ref m_numbers, .ref m_moving]))] := hD
      obtain ⟨z_14, ez_14⟩ : ∃ y : Int32, y = nI i2 + 1 := ⟨_, rfl⟩
      refine lv_iinc (v := z_14) (lv' := [(1, .int z_14), (0, .ref h0)]) hx hb dX10_roll_106 hl (k := 0) rfl (by rw [ez_14]; rfl) (by decide) rfl (fun ls hl => ?_)
      refine lv_goto (tgt := 87) hx hb dX10_roll_109 (by decide) ?_
      obtain rfl : z_14 = nI (i2 + 1) := ez_14.trans (nI_1 i2)
      exact ih (i2 + 1, upd f2 ((nI i2) : Int32).toNatClampNeg 0) _ _ _ ⟨(show (i2 + 1) ≤ 1875 from hlt2), (show ∀ j, j < 1875 → (upd f2 ((nI i2) : Int32).toNatClampNeg 0) j = 0 from updz rfl hw2), hP, hD, hS, lv_sub hl [0, 1] rfl⟩ (show 1875 - (i2 + 1) < 1875 - i2 by omega)
  ·
    have hlt : i < 1875 := Nat.lt_of_not_le (fun q => c_1 ((nI_leI (a := 1875) (b := i) (by decide) (by omega)).mpr q))
    refine lv_aload_n hx hb dX10_roll_37 rfl (lv_at hl 1 rfl) ?_
    refine va_get (D := (dC, dI)) (ci := 8) (v := .ref m_fresh) (C := RX10) (T := TX10) (N := 33) hx hb hts iX10_roll_X10 hown hK hP 0 rfl rfl 15 (by decide) (hts (.fieldLink RX10 34 "LuckyTicketModel" "fresh" "[I") (List.mem_of_getElem? (i := 26) rfl)) (fun _ h9 => h9) rfl dX10_roll_38 ?_
    refine lv_iload_n hx hb dX10_roll_41 rfl (lv_at hl 0 rfl) ?_
    refine lv_iconst (v := 0) hx hb dX10_roll_42 (by decide) ?_
    refine va_iast hx hb hK hP hD hS 2 1 rfl rfl (vp_in_nI hlt (by decide)) dX10_roll_43 (fun H locs hP hD hS => ?_)
    have hP : va_P (dC, dI) vwCl [(h0, .inr (8, [.int 0, .ref m_world, .ref m_images, .ref m_hasImage, .ref m_luck, .ref m_tape, .int 0, .ref m_five, .int 0, .int 0, .int 0, .int 0, .int 0, .int 0, .int (-1), .ref m_fresh, .ref m_waits, .int 0, .int 0, .int 0, .ref m_figures, .ref m_pile, .long 0, .ref m_times, .ref m_far, .ref m_queue, .ref m_months, .ref m_ways, .ref m_waysOn, .ref m_many, .ref m_width, .ref m_numbers, .ref m_moving])), (m_world, .inl (cI, 1875, .inl (fun _ => 0))), (m_fresh, .inl (cF, 1875, .inl (upd f1 ((nI i) : Int32).toNatClampNeg 0)))] H := hP
    have hD : va_D A [(h0, .inr (8, [.int 0, .ref m_world, .ref m_images, .ref m_hasImage, .ref m_luck, .ref m_tape, .int 0, .ref m_five, .int 0, .int 0, .int 0, .int 0, .int 0, .int 0, .int (-1), .ref m_fresh, .ref m_waits, .int 0, .int 0, .int 0, .ref m_figures, .ref m_pile, .long 0, .ref m_times, .ref m_far, .ref m_queue, .ref m_months, .ref m_ways, .ref m_waysOn, .ref m_many, .ref m_width, .ref m_numbers, .ref m_moving])), (m_world, .inl (cI, 1875, .inl (fun _ => 0))), (m_fresh, .inl (cF, 1875, .inl (upd f1 ((nI i) : Int32).toNatClampNeg 0)))] := hD
    obtain ⟨z_15, ez_15⟩ : ∃ y : Int32, y = nI i + 1 := ⟨_, rfl⟩
    refine lv_iinc (v := z_15) (lv' := [(1, .int z_15), (0, .ref h0)]) hx hb dX10_roll_44 hl (k := 0) rfl (by rw [ez_15]; rfl) (by decide) rfl (fun ls hl => ?_)
    refine lv_goto (tgt := 30) hx hb dX10_roll_47 (by decide) ?_
    obtain rfl : z_15 = nI (i + 1) := ez_15.trans (nI_1 i)
    exact ih (i + 1, upd f1 ((nI i) : Int32).toNatClampNeg 0) _ _ _ ⟨(show (i + 1) ≤ 1875 from hlt), (show ∀ j, j < (i + 1) → (upd f1 ((nI i) : Int32).toNatClampNeg 0) j = 0 from upd0 (by omega) rfl hfi), hP, hD, hS, lv_sub hl [0, 1] rfl⟩ (show 1875 - (i + 1) < 1875 - i by omega)
