theorem dX10_mend_0 : decode cX10_mend 0 = .ok (.aload_n 0, 1) := by decide +kernel
theorem dX10_mend_1 : decode cX10_mend 1 = .ok (.iload_n 1, 1) := by decide +kernel
theorem dX10_mend_2 : decode cX10_mend 2 = .ok (.iload_n 2, 1) := by decide +kernel
theorem dX10_mend_3 : decode cX10_mend 3 = .ok (.invokevirtual 313, 3) := by decide +kernel
theorem dX10_mend_6 : decode cX10_mend 6 = .ok (.ifCond .ne 6, 3) := by decide +kernel
theorem dX10_mend_9 : decode cX10_mend 9 = .ok (.bipush (-2), 2) := by decide +kernel
theorem dX10_mend_11 : decode cX10_mend 11 = .ok (.ireturn, 1) := by decide +kernel
def uX10_mend : List Cond := .code yX10_mend cX10_mend 4 (some .int) :: ([.methodLink RX10 313 yX10_isBoth, .instanceMethod yX10_isBoth, .selects RX10 yX10_isBoth yX10_isBoth, .initialized RX10, .code yX10_isBoth cX10_isBoth 3 (some .boolean), .methodLink RX10 89 yX10_isLaw, .instanceMethod yX10_isLaw, .selects RX10 yX10_isLaw yX10_isLaw, .code yX10_isLaw cX10_isLaw 2 (some .boolean), .fieldLink RX10 9 "LuckyTicketModel" "world" "[I", .methodLink RX10 82 yX10_in, .static yX10_in, .code yX10_in cX10_in 6 (some .boolean)] ++ wsX100)
theorem iX10_mend_X10 : ∀ w ∈ wsX100, w ∈ uX10_mend := fun _ h => List.mem_cons_of_mem _ (List.mem_append_right _ h)
set_option maxRecDepth 20000 in
theorem gX10_mend__X10_isBoth_V313 : GoodIn uX10_mend (wsV RX10 313 RX10 yX10_isBoth uX10_isBoth) := goodIn_p _ [5, 9, 13] rfl (by decide +kernel)
set_option maxHeartbeats 4000000 in
set_option maxRecDepth 100000 in
theorem kX10_mend (l : Launch) (dC : Nat → ClassId) (dI : Nat → Nat → Nat) (h0 : Nat) (m_world : Nat) (m_images : Nat) (m_hasImage : Nat) (m_luck : Nat) (m_tape : Nat) (m_five : Nat) (m_fresh : Nat) (m_waits : Nat) (m_figures : Nat) (m_pile : Nat) (m_times : Nat) (m_far : Nat) (m_queue : Nat) (m_months : Nat) (m_ways : Nat) (m_waysOn : Nat) (m_many : Nat) (m_width : Nat) (m_numbers : Nat) (m_moving : Nat) (cI : ClassId) (a1 : Int32) (a2 : Int32) : Met l yX10_mend uX10_mend ({ frames := 3, cells := 0, slots := 0, locals := 68 }) (va_Pc [.ref h0, .int a1, .int a2] (pw (dC, dI) vwCl [(h0, .inr (8, [.int 0, .ref m_world, .ref m_images, .ref m_hasImage, .ref m_luck, .ref m_tape, .int 0, .ref m_five, .int 0, .int 0, .int 0, .int 0, .int 0, .int 0, .int (-1), .ref m_fresh, .ref m_waits, .int 0, .int 0, .int 0, .ref m_figures, .ref m_pile, .long 0, .ref m_times, .ref m_far, .ref m_queue, .ref m_months, .ref m_ways, .ref m_waysOn, .ref m_many, .ref m_width, .ref m_numbers, .ref m_moving])), (m_world, .inl (cI, 1875, .inl (fun _ => 0)))] [(cI, .int)])) (vp_Si (fun r => r = (-2))) 0 0 (fun _ => False) := by
  refine Met.ofW (cc := cX10_mend) (maxL := 4) (ret := (some .int)) (by decide) rfl ?_
  intro p e s m args below meth c s₁ B hml hv
  obtain ⟨rfl, hP, hK, hN⟩ := hv
  have hx := B.exec
  have hb := B.bytes
  have hr := B.returns
  have hts := atoms_spec (ws := uX10_mend) B.pre
  have hown : s.vm.findClass RX10 = some m.cls := findClass_of_methodNamed B.named
  have hlocks := B.notSynchronized
  have hl := lv_entry ([.ref h0, .int a1, .int a2]) (n := 4) (Nat.le_of_ble_eq_true rfl)
  rw [lg_entry_eq]
  generalize (lg_sl ([.ref h0, .int a1, .int a2]) ++ List.replicate (4 - (lg_sl ([.ref h0, .int a1, .int a2])).length) Slot.unset).toArray = ls at hl ⊢
  have hl : lv_has ls 4 [(0, .ref h0), (1, .int a1), (2, .int a2)] := hl
  refine lv_aload_n hx hb dX10_mend_0 rfl (lv_at hl 0 rfl) ?_
  refine lv_iload_n hx hb dX10_mend_1 rfl (lv_at hl 1 rfl) ?_
  refine lv_iload_n hx hb dX10_mend_2 rfl (lv_at hl 2 rfl) ?_
  refine vp_callSi (W.runV (As := [.int a1, .int a2]) (rest := []) ⟨hx, hb, hml, hown, hts⟩ (kX10_isBoth l dC dI h0 m_world m_images m_hasImage m_luck m_tape m_five m_fresh m_waits m_figures m_pile m_times m_far m_queue m_months m_ways m_waysOn m_many m_width m_numbers m_moving cI a1 a2) (cwV 2 hts gX10_mend__X10_isBoth_V313 rfl rfl rfl (by decide +kernel) ⟨lel 3 3 rfl, lel 68 68 rfl⟩) ⟨pw_fb, va_recv hK hP (ci := 8) (q0 := 0) rfl rfl, (pw_use hP hK hN [0, 1] rfl [0] rfl)⟩ rfl rfl hl.1 rfl (lv_room (Nat.le_of_ble_eq_true rfl)) dX10_mend_3 ⟨lel 0 0 rfl, lel 0 0 rfl⟩) (fun r_1 hr_1 => ?_)
  obtain rfl : r_1 = 0 := hr_1
  refine lv_if_ne (tgt := 12) hx hb dX10_mend_6 (by decide) (fun c_2 => absurd c_2 (by decide)) (fun _ => ?_)
  refine lv_bipush (v := (-2)) hx hb dX10_mend_9 (by decide) ?_
  exact W.iret (v := (-2)) hx hb hr (fun t ht hW => ⟨(-2), rfl, rfl, ht⟩) t_nil dX10_mend_11
theorem dX10_mended_0 : decode cX10_mended 0 = .ok (.aload_n 0, 1) := by decide +kernel
theorem dX10_mended_1 : decode cX10_mended 1 = .ok (.iload_n 1, 1) := by decide +kernel
theorem dX10_mended_2 : decode cX10_mended 2 = .ok (.iload_n 2, 1) := by decide +kernel
theorem dX10_mended_3 : decode cX10_mended 3 = .ok (.invokevirtual 313, 3) := by decide +kernel
theorem dX10_mended_6 : decode cX10_mended 6 = .ok (.ifCond .eq 12, 3) := by decide +kernel
theorem dX10_mended_18 : decode cX10_mended 18 = .ok (.bipush (-2), 2) := by decide +kernel
theorem dX10_mended_20 : decode cX10_mended 20 = .ok (.ireturn, 1) := by decide +kernel
def uX10_mended : List Cond := .code yX10_mended cX10_mended 3 (some .int) :: ([.methodLink RX10 313 yX10_isBoth, .instanceMethod yX10_isBoth, .selects RX10 yX10_isBoth yX10_isBoth, .initialized RX10, .code yX10_isBoth cX10_isBoth 3 (some .boolean), .methodLink RX10 89 yX10_isLaw, .instanceMethod yX10_isLaw, .selects RX10 yX10_isLaw yX10_isLaw, .code yX10_isLaw cX10_isLaw 2 (some .boolean), .fieldLink RX10 9 "LuckyTicketModel" "world" "[I", .methodLink RX10 82 yX10_in, .static yX10_in, .code yX10_in cX10_in 6 (some .boolean)] ++ wsX100)
theorem iX10_mended_X10 : ∀ w ∈ wsX100, w ∈ uX10_mended := fun _ h => List.mem_cons_of_mem _ (List.mem_append_right _ h)
set_option maxRecDepth 20000 in
theorem gX10_mended__X10_isBoth_V313 : GoodIn uX10_mended (wsV RX10 313 RX10 yX10_isBoth uX10_isBoth) := goodIn_p _ [5, 9, 13] rfl (by decide +kernel)
set_option maxHeartbeats 4000000 in
set_option maxRecDepth 100000 in
theorem kX10_mended (l : Launch) (dC : Nat → ClassId) (dI : Nat → Nat → Nat) (h0 : Nat) (m_world : Nat) (m_images : Nat) (m_hasImage : Nat) (m_luck : Nat) (m_tape : Nat) (m_five : Nat) (m_fresh : Nat) (m_waits : Nat) (m_figures : Nat) (m_pile : Nat) (m_times : Nat) (m_far : Nat) (m_queue : Nat) (m_months : Nat) (m_ways : Nat) (m_waysOn : Nat) (m_many : Nat) (m_width : Nat) (m_numbers : Nat) (m_moving : Nat) (cI : ClassId) (a1 : Int32) (a2 : Int32) : Met l yX10_mended uX10_mended ({ frames := 3, cells := 0, slots := 0, locals := 68 }) (va_Pc [.ref h0, .int a1, .int a2] (pw (dC, dI) vwCl [(h0, .inr (8, [.int 0, .ref m_world, .ref m_images, .ref m_hasImage, .ref m_luck, .ref m_tape, .int 0, .ref m_five, .int 0, .int 0, .int 0, .int 0, .int 0, .int 0, .int (-1), .ref m_fresh, .ref m_waits, .int 0, .int 0, .int 0, .ref m_figures, .ref m_pile, .long 0, .ref m_times, .ref m_far, .ref m_queue, .ref m_months, .ref m_ways, .ref m_waysOn, .ref m_many, .ref m_width, .ref m_numbers, .ref m_moving])), (m_world, .inl (cI, 1875, .inl (fun _ => 0)))] [(cI, .int)])) (vp_Si (fun r => r = (-2))) 0 0 (fun _ => False) := by
  refine Met.ofW (cc := cX10_mended) (maxL := 3) (ret := (some .int)) (by decide) rfl ?_
  intro p e s m args below meth c s₁ B hml hv
  obtain ⟨rfl, hP, hK, hN⟩ := hv
  have hx := B.exec
  have hb := B.bytes
  have hr := B.returns
  have hts := atoms_spec (ws := uX10_mended) B.pre
  have hown : s.vm.findClass RX10 = some m.cls := findClass_of_methodNamed B.named
  have hlocks := B.notSynchronized
  have hl := lv_entry ([.ref h0, .int a1, .int a2]) (n := 3) (Nat.le_of_ble_eq_true rfl)
  rw [lg_entry_eq]
  generalize (lg_sl ([.ref h0, .int a1, .int a2]) ++ List.replicate (3 - (lg_sl ([.ref h0, .int a1, .int a2])).length) Slot.unset).toArray = ls at hl ⊢
  have hl : lv_has ls 3 [(0, .ref h0), (1, .int a1), (2, .int a2)] := hl
  refine lv_aload_n hx hb dX10_mended_0 rfl (lv_at hl 0 rfl) ?_
  refine lv_iload_n hx hb dX10_mended_1 rfl (lv_at hl 1 rfl) ?_
  refine lv_iload_n hx hb dX10_mended_2 rfl (lv_at hl 2 rfl) ?_
  refine vp_callSi (W.runV (As := [.int a1, .int a2]) (rest := []) ⟨hx, hb, hml, hown, hts⟩ (kX10_isBoth l dC dI h0 m_world m_images m_hasImage m_luck m_tape m_five m_fresh m_waits m_figures m_pile m_times m_far m_queue m_months m_ways m_waysOn m_many m_width m_numbers m_moving cI a1 a2) (cwV 2 hts gX10_mended__X10_isBoth_V313 rfl rfl rfl (by decide +kernel) ⟨lel 3 3 rfl, lel 68 68 rfl⟩) ⟨pw_fb, va_recv hK hP (ci := 8) (q0 := 0) rfl rfl, (pw_use hP hK hN [0, 1] rfl [0] rfl)⟩ rfl rfl hl.1 rfl (lv_room (Nat.le_of_ble_eq_true rfl)) dX10_mended_3 ⟨lel 0 0 rfl, lel 0 0 rfl⟩) (fun r_1 hr_1 => ?_)
  obtain rfl : r_1 = 0 := hr_1
  refine lv_if_eq (tgt := 18) hx hb dX10_mended_6 (by decide) (fun _ => ?_) (fun c_2 => absurd c_2 (by decide))
  refine lv_bipush (v := (-2)) hx hb dX10_mended_18 (by decide) ?_
  exact W.iret (v := (-2)) hx hb hr (fun t ht hW => ⟨(-2), rfl, rfl, ht⟩) t_nil dX10_mended_20
theorem dX10_nearest_0 : decode cX10_nearest 0 = .ok (.aload_n 0, 1) := by decide +kernel
theorem dX10_nearest_1 : decode cX10_nearest 1 = .ok (.iload_n 1, 1) := by decide +kernel
theorem dX10_nearest_2 : decode cX10_nearest 2 = .ok (.iload_n 2, 1) := by decide +kernel
theorem dX10_nearest_3 : decode cX10_nearest 3 = .ok (.invokevirtual 313, 3) := by decide +kernel
theorem dX10_nearest_6 : decode cX10_nearest 6 = .ok (.ifCond .ne 6, 3) := by decide +kernel
theorem dX10_nearest_9 : decode cX10_nearest 9 = .ok (.bipush (-2), 2) := by decide +kernel
theorem dX10_nearest_11 : decode cX10_nearest 11 = .ok (.ireturn, 1) := by decide +kernel
def uX10_nearest : List Cond := .code yX10_nearest cX10_nearest 5 (some .int) :: ([.methodLink RX10 313 yX10_isBoth, .instanceMethod yX10_isBoth, .selects RX10 yX10_isBoth yX10_isBoth, .initialized RX10, .code yX10_isBoth cX10_isBoth 3 (some .boolean), .methodLink RX10 89 yX10_isLaw, .instanceMethod yX10_isLaw, .selects RX10 yX10_isLaw yX10_isLaw, .code yX10_isLaw cX10_isLaw 2 (some .boolean), .fieldLink RX10 9 "LuckyTicketModel" "world" "[I", .methodLink RX10 82 yX10_in, .static yX10_in, .code yX10_in cX10_in 6 (some .boolean)] ++ wsX100)
theorem iX10_nearest_X10 : ∀ w ∈ wsX100, w ∈ uX10_nearest := fun _ h => List.mem_cons_of_mem _ (List.mem_append_right _ h)
set_option maxRecDepth 20000 in
theorem gX10_nearest__X10_isBoth_V313 : GoodIn uX10_nearest (wsV RX10 313 RX10 yX10_isBoth uX10_isBoth) := goodIn_p _ [5, 9, 13] rfl (by decide +kernel)
set_option maxHeartbeats 4000000 in
set_option maxRecDepth 100000 in
theorem kX10_nearest (l : Launch) (dC : Nat → ClassId) (dI : Nat → Nat → Nat) (h0 : Nat) (m_world : Nat) (m_images : Nat) (m_hasImage : Nat) (m_luck : Nat) (m_tape : Nat) (m_five : Nat) (m_fresh : Nat) (m_waits : Nat) (m_figures : Nat) (m_pile : Nat) (m_times : Nat) (m_far : Nat) (m_queue : Nat) (m_months : Nat) (m_ways : Nat) (m_waysOn : Nat) (m_many : Nat) (m_width : Nat) (m_numbers : Nat) (m_moving : Nat) (cI : ClassId) (a1 : Int32) (a2 : Int32) : Met l yX10_nearest uX10_nearest ({ frames := 3, cells := 0, slots := 0, locals := 68 }) (va_Pc [.ref h0, .int a1, .int a2] (pw (dC, dI) vwCl [(h0, .inr (8, [.int 0, .ref m_world, .ref m_images, .ref m_hasImage, .ref m_luck, .ref m_tape, .int 0, .ref m_five, .int 0, .int 0, .int 0, .int 0, .int 0, .int 0, .int (-1), .ref m_fresh, .ref m_waits, .int 0, .int 0, .int 0, .ref m_figures, .ref m_pile, .long 0, .ref m_times, .ref m_far, .ref m_queue, .ref m_months, .ref m_ways, .ref m_waysOn, .ref m_many, .ref m_width, .ref m_numbers, .ref m_moving])), (m_world, .inl (cI, 1875, .inl (fun _ => 0)))] [(cI, .int)])) (vp_Si (fun r => r = (-2))) 0 0 (fun _ => False) := by
  refine Met.ofW (cc := cX10_nearest) (maxL := 5) (ret := (some .int)) (by decide) rfl ?_
  intro p e s m args below meth c s₁ B hml hv
  obtain ⟨rfl, hP, hK, hN⟩ := hv
  have hx := B.exec
  have hb := B.bytes
  have hr := B.returns
  have hts := atoms_spec (ws := uX10_nearest) B.pre
  have hown : s.vm.findClass RX10 = some m.cls := findClass_of_methodNamed B.named
  have hlocks := B.notSynchronized
  have hl := lv_entry ([.ref h0, .int a1, .int a2]) (n := 5) (Nat.le_of_ble_eq_true rfl)
  rw [lg_entry_eq]
  generalize (lg_sl ([.ref h0, .int a1, .int a2]) ++ List.replicate (5 - (lg_sl ([.ref h0, .int a1, .int a2])).length) Slot.unset).toArray = ls at hl ⊢
  have hl : lv_has ls 5 [(0, .ref h0), (1, .int a1), (2, .int a2)] := hl
  refine lv_aload_n hx hb dX10_nearest_0 rfl (lv_at hl 0 rfl) ?_
  refine lv_iload_n hx hb dX10_nearest_1 rfl (lv_at hl 1 rfl) ?_
  refine lv_iload_n hx hb dX10_nearest_2 rfl (lv_at hl 2 rfl) ?_
  refine vp_callSi (W.runV (As := [.int a1, .int a2]) (rest := []) ⟨hx, hb, hml, hown, hts⟩ (kX10_isBoth l dC dI h0 m_world m_images m_hasImage m_luck m_tape m_five m_fresh m_waits m_figures m_pile m_times m_far m_queue m_months m_ways m_waysOn m_many m_width m_numbers m_moving cI a1 a2) (cwV 2 hts gX10_nearest__X10_isBoth_V313 rfl rfl rfl (by decide +kernel) ⟨lel 3 3 rfl, lel 68 68 rfl⟩) ⟨pw_fb, va_recv hK hP (ci := 8) (q0 := 0) rfl rfl, (pw_use hP hK hN [0, 1] rfl [0] rfl)⟩ rfl rfl hl.1 rfl (lv_room (Nat.le_of_ble_eq_true rfl)) dX10_nearest_3 ⟨lel 0 0 rfl, lel 0 0 rfl⟩) (fun r_1 hr_1 => ?_)
  obtain rfl : r_1 = 0 := hr_1
  refine lv_if_ne (tgt := 12) hx hb dX10_nearest_6 (by decide) (fun c_2 => absurd c_2 (by decide)) (fun _ => ?_)
  refine lv_bipush (v := (-2)) hx hb dX10_nearest_9 (by decide) ?_
  exact W.iret (v := (-2)) hx hb hr (fun t ht hW => ⟨(-2), rfl, rfl, ht⟩) t_nil dX10_nearest_11
theorem dX10_about_0 : decode cX10_about 0 = .ok (.aload_n 0, 1) := by decide +kernel
theorem dX10_about_1 : decode cX10_about 1 = .ok (.iload_n 1, 1) := by decide +kernel
theorem dX10_about_2 : decode cX10_about 2 = .ok (.i2l, 1) := by decide +kernel
theorem dX10_about_3 : decode cX10_about 3 = .ok (.invokevirtual 93, 3) := by decide +kernel
theorem dX10_about_6 : decode cX10_about 6 = .ok (.ifCond .ne 6, 3) := by decide +kernel
theorem dX10_about_9 : decode cX10_about 9 = .ok (.bipush (-2), 2) := by decide +kernel
theorem dX10_about_11 : decode cX10_about 11 = .ok (.ireturn, 1) := by decide +kernel
def uX10_about : List Cond := .code yX10_about cX10_about 4 (some .int) :: ([.methodLink RX10 93 yX10_isTicket, .instanceMethod yX10_isTicket, .selects RX10 yX10_isTicket yX10_isTicket, .initialized RX10, .code yX10_isTicket cX10_isTicket 3 (some .boolean), .fieldLink RX10 9 "LuckyTicketModel" "world" "[I", .methodLink RX10 82 yX10_in, .static yX10_in, .code yX10_in cX10_in 6 (some .boolean)] ++ wsX100)
theorem iX10_about_X10 : ∀ w ∈ wsX100, w ∈ uX10_about := fun _ h => List.mem_cons_of_mem _ (List.mem_append_right _ h)
set_option maxRecDepth 20000 in
theorem gX10_about__X10_isTicket_V93 : GoodIn uX10_about (wsV RX10 93 RX10 yX10_isTicket uX10_isTicket) := goodIn_p _ [5, 9] rfl (by decide +kernel)
set_option maxHeartbeats 4000000 in
set_option maxRecDepth 100000 in
theorem kX10_about (l : Launch) (dC : Nat → ClassId) (dI : Nat → Nat → Nat) (h0 : Nat) (m_world : Nat) (m_images : Nat) (m_hasImage : Nat) (m_luck : Nat) (m_tape : Nat) (m_five : Nat) (m_fresh : Nat) (m_waits : Nat) (m_figures : Nat) (m_pile : Nat) (m_times : Nat) (m_far : Nat) (m_queue : Nat) (m_months : Nat) (m_ways : Nat) (m_waysOn : Nat) (m_many : Nat) (m_width : Nat) (m_numbers : Nat) (m_moving : Nat) (cI : ClassId) (a1 : Int32) : Met l yX10_about uX10_about ({ frames := 2, cells := 0, slots := 0, locals := 47 }) (va_Pc [.ref h0, .int a1] (pw (dC, dI) vwCl [(h0, .inr (8, [.int 0, .ref m_world, .ref m_images, .ref m_hasImage, .ref m_luck, .ref m_tape, .int 0, .ref m_five, .int 0, .int 0, .int 0, .int 0, .int 0, .int 0, .int (-1), .ref m_fresh, .ref m_waits, .int 0, .int 0, .int 0, .ref m_figures, .ref m_pile, .long 0, .ref m_times, .ref m_far, .ref m_queue, .ref m_months, .ref m_ways, .ref m_waysOn, .ref m_many, .ref m_width, .ref m_numbers, .ref m_moving])), (m_world, .inl (cI, 1875, .inl (fun _ => 0)))] [(cI, .int)])) (vp_Si (fun r => r = (-2))) 0 0 (fun _ => False) := by
  refine Met.ofW (cc := cX10_about) (maxL := 4) (ret := (some .int)) (by decide) rfl ?_
  intro p e s m args below meth c s₁ B hml hv
  obtain ⟨rfl, hP, hK, hN⟩ := hv
  have hx := B.exec
  have hb := B.bytes
  have hr := B.returns
  have hts := atoms_spec (ws := uX10_about) B.pre
  have hown : s.vm.findClass RX10 = some m.cls := findClass_of_methodNamed B.named
  have hlocks := B.notSynchronized
  have hl := lv_entry ([.ref h0, .int a1]) (n := 4) (Nat.le_of_ble_eq_true rfl)
  rw [lg_entry_eq]
  generalize (lg_sl ([.ref h0, .int a1]) ++ List.replicate (4 - (lg_sl ([.ref h0, .int a1])).length) Slot.unset).toArray = ls at hl ⊢
  have hl : lv_has ls 4 [(0, .ref h0), (1, .int a1)] := hl
  refine lv_aload_n hx hb dX10_about_0 rfl (lv_at hl 0 rfl) ?_
  refine lv_iload_n hx hb dX10_about_1 rfl (lv_at hl 1 rfl) ?_
  refine lv_i2l (v := a1.toInt64) hx hb dX10_about_2 rfl ?_
  refine vp_callSi (W.runV (As := [.long a1.toInt64]) (rest := []) ⟨hx, hb, hml, hown, hts⟩ (kX10_isTicket l dC dI h0 m_world m_images m_hasImage m_luck m_tape m_five m_fresh m_waits m_figures m_pile m_times m_far m_queue m_months m_ways m_waysOn m_many m_width m_numbers m_moving cI a1.toInt64) (cwV 1 hts gX10_about__X10_isTicket_V93 rfl rfl rfl (by decide +kernel) ⟨lel 2 2 rfl, lel 47 47 rfl⟩) ⟨pw_fb, va_recv hK hP (ci := 8) (q0 := 0) rfl rfl, (pw_use hP hK hN [0, 1] rfl [0] rfl)⟩ rfl rfl hl.1 rfl (lv_room (Nat.le_of_ble_eq_true rfl)) dX10_about_3 ⟨lel 0 0 rfl, lel 0 0 rfl⟩) (fun r_1 hr_1 => ?_)
  obtain rfl : r_1 = 0 := hr_1
  refine lv_if_ne (tgt := 12) hx hb dX10_about_6 (by decide) (fun c_2 => absurd c_2 (by decide)) (fun _ => ?_)
  refine lv_bipush (v := (-2)) hx hb dX10_about_9 (by decide) ?_
  exact W.iret (v := (-2)) hx hb hr (fun t ht hW => ⟨(-2), rfl, rfl, ht⟩) t_nil dX10_about_11
theorem dX10_draw__0 : decode cX10_draw_ 0 = .ok (.aload_n 0, 1) := by decide +kernel
theorem dX10_draw__1 : decode cX10_draw_ 1 = .ok (.iload_n 1, 1) := by decide +kernel
theorem dX10_draw__2 : decode cX10_draw_ 2 = .ok (.invokevirtual 89, 3) := by decide +kernel
theorem dX10_draw__5 : decode cX10_draw_ 5 = .ok (.ifCond .eq 10, 3) := by decide +kernel
theorem dX10_draw__15 : decode cX10_draw_ 15 = .ok (.bipush (-2), 2) := by decide +kernel
theorem dX10_draw__17 : decode cX10_draw_ 17 = .ok (.ireturn, 1) := by decide +kernel
def uX10_draw_ : List Cond := .code yX10_draw_ cX10_draw_ 4 (some .int) :: ([.methodLink RX10 89 yX10_isLaw, .instanceMethod yX10_isLaw, .selects RX10 yX10_isLaw yX10_isLaw, .initialized RX10, .code yX10_isLaw cX10_isLaw 2 (some .boolean), .fieldLink RX10 9 "LuckyTicketModel" "world" "[I", .methodLink RX10 82 yX10_in, .static yX10_in, .code yX10_in cX10_in 6 (some .boolean)] ++ wsX100)
theorem iX10_draw__X10 : ∀ w ∈ wsX100, w ∈ uX10_draw_ := fun _ h => List.mem_cons_of_mem _ (List.mem_append_right _ h)
set_option maxRecDepth 20000 in
theorem gX10_draw___X10_isLaw_V89 : GoodIn uX10_draw_ (wsV RX10 89 RX10 yX10_isLaw uX10_isLaw) := goodIn_p _ [5, 9] rfl (by decide +kernel)
set_option maxHeartbeats 4000000 in
set_option maxRecDepth 100000 in
theorem kX10_draw_ (l : Launch) (dC : Nat → ClassId) (dI : Nat → Nat → Nat) (h0 : Nat) (m_world : Nat) (m_images : Nat) (m_hasImage : Nat) (m_luck : Nat) (m_tape : Nat) (m_five : Nat) (m_fresh : Nat) (m_waits : Nat) (m_figures : Nat) (m_pile : Nat) (m_times : Nat) (m_far : Nat) (m_queue : Nat) (m_months : Nat) (m_ways : Nat) (m_waysOn : Nat) (m_many : Nat) (m_width : Nat) (m_numbers : Nat) (m_moving : Nat) (cI : ClassId) (a1 : Int32) (a2 : Int32) : Met l yX10_draw_ uX10_draw_ ({ frames := 2, cells := 0, slots := 0, locals := 46 }) (va_Pc [.ref h0, .int a1, .int a2] (pw (dC, dI) vwCl [(h0, .inr (8, [.int 0, .ref m_world, .ref m_images, .ref m_hasImage, .ref m_luck, .ref m_tape, .int 0, .ref m_five, .int 0, .int 0, .int 0, .int 0, .int 0, .int 0, .int (-1), .ref m_fresh, .ref m_waits, .int 0, .int 0, .int 0, .ref m_figures, .ref m_pile, .long 0, .ref m_times, .ref m_far, .ref m_queue, .ref m_months, .ref m_ways, .ref m_waysOn, .ref m_many, .ref m_width, .ref m_numbers, .ref m_moving])), (m_world, .inl (cI, 1875, .inl (fun _ => 0)))] [(cI, .int)])) (vp_Si (fun r => r = (-2))) 0 0 (fun _ => False) := by
  refine Met.ofW (cc := cX10_draw_) (maxL := 4) (ret := (some .int)) (by decide) rfl ?_
  intro p e s m args below meth c s₁ B hml hv
  obtain ⟨rfl, hP, hK, hN⟩ := hv
  have hx := B.exec
  have hb := B.bytes
  have hr := B.returns
  have hts := atoms_spec (ws := uX10_draw_) B.pre
  have hown : s.vm.findClass RX10 = some m.cls := findClass_of_methodNamed B.named
  have hlocks := B.notSynchronized
  have hl := lv_entry ([.ref h0, .int a1, .int a2]) (n := 4) (Nat.le_of_ble_eq_true rfl)
  rw [lg_entry_eq]
  generalize (lg_sl ([.ref h0, .int a1, .int a2]) ++ List.replicate (4 - (lg_sl ([.ref h0, .int a1, .int a2])).length) Slot.unset).toArray = ls at hl ⊢
  have hl : lv_has ls 4 [(0, .ref h0), (1, .int a1), (2, .int a2)] := hl
  refine lv_aload_n hx hb dX10_draw__0 rfl (lv_at hl 0 rfl) ?_
  refine lv_iload_n hx hb dX10_draw__1 rfl (lv_at hl 1 rfl) ?_
  refine vp_callSi (W.runV (As := [.int a1]) (rest := []) ⟨hx, hb, hml, hown, hts⟩ (kX10_isLaw l dC dI h0 m_world m_images m_hasImage m_luck m_tape m_five m_fresh m_waits m_figures m_pile m_times m_far m_queue m_months m_ways m_waysOn m_many m_width m_numbers m_moving cI a1) (cwV 1 hts gX10_draw___X10_isLaw_V89 rfl rfl rfl (by decide +kernel) ⟨lel 2 2 rfl, lel 46 46 rfl⟩) ⟨pw_fb, va_recv hK hP (ci := 8) (q0 := 0) rfl rfl, (pw_use hP hK hN [0, 1] rfl [0] rfl)⟩ rfl rfl hl.1 rfl (lv_room (Nat.le_of_ble_eq_true rfl)) dX10_draw__2 ⟨lel 0 0 rfl, lel 0 0 rfl⟩) (fun r_1 hr_1 => ?_)
  obtain rfl : r_1 = 0 := hr_1
  refine lv_if_eq (tgt := 15) hx hb dX10_draw__5 (by decide) (fun _ => ?_) (fun c_2 => absurd c_2 (by decide))
  refine lv_bipush (v := (-2)) hx hb dX10_draw__15 (by decide) ?_
  exact W.iret (v := (-2)) hx hb hr (fun t ht hW => ⟨(-2), rfl, rfl, ht⟩) t_nil dX10_draw__17
theorem dX10_sold_0 : decode cX10_sold 0 = .ok (.aload_n 0, 1) := by decide +kernel
theorem dX10_sold_1 : decode cX10_sold 1 = .ok (.iload_n 1, 1) := by decide +kernel
theorem dX10_sold_2 : decode cX10_sold 2 = .ok (.iload_n 2, 1) := by decide +kernel
theorem dX10_sold_3 : decode cX10_sold 3 = .ok (.iload_n 3, 1) := by decide +kernel
theorem dX10_sold_4 : decode cX10_sold 4 = .ok (.invokevirtual 410, 3) := by decide +kernel
theorem dX10_sold_7 : decode cX10_sold 7 = .ok (.ifCond .ne 6, 3) := by decide +kernel
theorem dX10_sold_10 : decode cX10_sold 10 = .ok (.bipush (-2), 2) := by decide +kernel
theorem dX10_sold_12 : decode cX10_sold 12 = .ok (.ireturn, 1) := by decide +kernel
def uX10_sold : List Cond := .code yX10_sold cX10_sold 6 (some .int) :: ([.methodLink RX10 410 yX10_isSale, .instanceMethod yX10_isSale, .selects RX10 yX10_isSale yX10_isSale, .initialized RX10, .code yX10_isSale cX10_isSale 4 (some .boolean), .methodLink RX10 89 yX10_isLaw, .instanceMethod yX10_isLaw, .selects RX10 yX10_isLaw yX10_isLaw, .code yX10_isLaw cX10_isLaw 2 (some .boolean), .fieldLink RX10 9 "LuckyTicketModel" "world" "[I", .methodLink RX10 82 yX10_in, .static yX10_in, .code yX10_in cX10_in 6 (some .boolean)] ++ wsX100)
theorem iX10_sold_X10 : ∀ w ∈ wsX100, w ∈ uX10_sold := fun _ h => List.mem_cons_of_mem _ (List.mem_append_right _ h)
set_option maxRecDepth 20000 in
theorem gX10_sold__X10_isSale_V410 : GoodIn uX10_sold (wsV RX10 410 RX10 yX10_isSale uX10_isSale) := goodIn_p _ [5, 9, 13] rfl (by decide +kernel)
set_option maxHeartbeats 4000000 in
set_option maxRecDepth 100000 in
theorem kX10_sold (l : Launch) (dC : Nat → ClassId) (dI : Nat → Nat → Nat) (h0 : Nat) (m_world : Nat) (m_images : Nat) (m_hasImage : Nat) (m_luck : Nat) (m_tape : Nat) (m_five : Nat) (m_fresh : Nat) (m_waits : Nat) (m_figures : Nat) (m_pile : Nat) (m_times : Nat) (m_far : Nat) (m_queue : Nat) (m_months : Nat) (m_ways : Nat) (m_waysOn : Nat) (m_many : Nat) (m_width : Nat) (m_numbers : Nat) (m_moving : Nat) (cI : ClassId) (a1 : Int32) (a2 : Int32) (a3 : Int32) : Met l yX10_sold uX10_sold ({ frames := 3, cells := 0, slots := 0, locals := 69 }) (va_Pc [.ref h0, .int a1, .int a2, .int a3] (pw (dC, dI) vwCl [(h0, .inr (8, [.int 0, .ref m_world, .ref m_images, .ref m_hasImage, .ref m_luck, .ref m_tape, .int 0, .ref m_five, .int 0, .int 0, .int 0, .int 0, .int 0, .int 0, .int (-1), .ref m_fresh, .ref m_waits, .int 0, .int 0, .int 0, .ref m_figures, .ref m_pile, .long 0, .ref m_times, .ref m_far, .ref m_queue, .ref m_months, .ref m_ways, .ref m_waysOn, .ref m_many, .ref m_width, .ref m_numbers, .ref m_moving])), (m_world, .inl (cI, 1875, .inl (fun _ => 0)))] [(cI, .int)])) (vp_Si (fun r => r = (-2))) 0 0 (fun _ => False) := by
  refine Met.ofW (cc := cX10_sold) (maxL := 6) (ret := (some .int)) (by decide) rfl ?_
  intro p e s m args below meth c s₁ B hml hv
  obtain ⟨rfl, hP, hK, hN⟩ := hv
  have hx := B.exec
  have hb := B.bytes
  have hr := B.returns
  have hts := atoms_spec (ws := uX10_sold) B.pre
  have hown : s.vm.findClass RX10 = some m.cls := findClass_of_methodNamed B.named
  have hlocks := B.notSynchronized
  have hl := lv_entry ([.ref h0, .int a1, .int a2, .int a3]) (n := 6) (Nat.le_of_ble_eq_true rfl)
  rw [lg_entry_eq]
  generalize (lg_sl ([.ref h0, .int a1, .int a2, .int a3]) ++ List.replicate (6 - (lg_sl ([.ref h0, .int a1, .int a2, .int a3])).length) Slot.unset).toArray = ls at hl ⊢
  have hl : lv_has ls 6 [(0, .ref h0), (1, .int a1), (2, .int a2), (3, .int a3)] := hl
  refine lv_aload_n hx hb dX10_sold_0 rfl (lv_at hl 0 rfl) ?_
  refine lv_iload_n hx hb dX10_sold_1 rfl (lv_at hl 1 rfl) ?_
  refine lv_iload_n hx hb dX10_sold_2 rfl (lv_at hl 2 rfl) ?_
  refine lv_iload_n hx hb dX10_sold_3 rfl (lv_at hl 3 rfl) ?_
  refine vp_callSi (W.runV (As := [.int a1, .int a2, .int a3]) (rest := []) ⟨hx, hb, hml, hown, hts⟩ (kX10_isSale l dC dI h0 m_world m_images m_hasImage m_luck m_tape m_five m_fresh m_waits m_figures m_pile m_times m_far m_queue m_months m_ways m_waysOn m_many m_width m_numbers m_moving cI a1 a2 a3) (cwV 3 hts gX10_sold__X10_isSale_V410 rfl rfl rfl (by decide +kernel) ⟨lel 3 3 rfl, lel 69 69 rfl⟩) ⟨pw_fb, va_recv hK hP (ci := 8) (q0 := 0) rfl rfl, (pw_use hP hK hN [0, 1] rfl [0] rfl)⟩ rfl rfl hl.1 rfl (lv_room (Nat.le_of_ble_eq_true rfl)) dX10_sold_4 ⟨lel 0 0 rfl, lel 0 0 rfl⟩) (fun r_1 hr_1 => ?_)
  obtain rfl : r_1 = 0 := hr_1
  refine lv_if_ne (tgt := 13) hx hb dX10_sold_7 (by decide) (fun c_2 => absurd c_2 (by decide)) (fun _ => ?_)
  refine lv_bipush (v := (-2)) hx hb dX10_sold_10 (by decide) ?_
  exact W.iret (v := (-2)) hx hb hr (fun t ht hW => ⟨(-2), rfl, rfl, ht⟩) t_nil dX10_sold_12
theorem dX10_first_0 : decode cX10_first 0 = .ok (.aload_n 0, 1) := by decide +kernel
theorem dX10_first_1 : decode cX10_first 1 = .ok (.iload_n 1, 1) := by decide +kernel
theorem dX10_first_2 : decode cX10_first 2 = .ok (.iload_n 2, 1) := by decide +kernel
theorem dX10_first_3 : decode cX10_first 3 = .ok (.iload_n 3, 1) := by decide +kernel
theorem dX10_first_4 : decode cX10_first 4 = .ok (.invokevirtual 410, 3) := by decide +kernel
theorem dX10_first_7 : decode cX10_first 7 = .ok (.ifCond .ne 6, 3) := by decide +kernel
theorem dX10_first_10 : decode cX10_first 10 = .ok (.bipush (-2), 2) := by decide +kernel
theorem dX10_first_12 : decode cX10_first 12 = .ok (.ireturn, 1) := by decide +kernel
def uX10_first : List Cond := .code yX10_first cX10_first 5 (some .int) :: ([.methodLink RX10 410 yX10_isSale, .instanceMethod yX10_isSale, .selects RX10 yX10_isSale yX10_isSale, .initialized RX10, .code yX10_isSale cX10_isSale 4 (some .boolean), .methodLink RX10 89 yX10_isLaw, .instanceMethod yX10_isLaw, .selects RX10 yX10_isLaw yX10_isLaw, .code yX10_isLaw cX10_isLaw 2 (some .boolean), .fieldLink RX10 9 "LuckyTicketModel" "world" "[I", .methodLink RX10 82 yX10_in, .static yX10_in, .code yX10_in cX10_in 6 (some .boolean)] ++ wsX100)
theorem iX10_first_X10 : ∀ w ∈ wsX100, w ∈ uX10_first := fun _ h => List.mem_cons_of_mem _ (List.mem_append_right _ h)
set_option maxRecDepth 20000 in
theorem gX10_first__X10_isSale_V410 : GoodIn uX10_first (wsV RX10 410 RX10 yX10_isSale uX10_isSale) := goodIn_p _ [5, 9, 13] rfl (by decide +kernel)
set_option maxHeartbeats 4000000 in
set_option maxRecDepth 100000 in
theorem kX10_first (l : Launch) (dC : Nat → ClassId) (dI : Nat → Nat → Nat) (h0 : Nat) (m_world : Nat) (m_images : Nat) (m_hasImage : Nat) (m_luck : Nat) (m_tape : Nat) (m_five : Nat) (m_fresh : Nat) (m_waits : Nat) (m_figures : Nat) (m_pile : Nat) (m_times : Nat) (m_far : Nat) (m_queue : Nat) (m_months : Nat) (m_ways : Nat) (m_waysOn : Nat) (m_many : Nat) (m_width : Nat) (m_numbers : Nat) (m_moving : Nat) (cI : ClassId) (a1 : Int32) (a2 : Int32) (a3 : Int32) : Met l yX10_first uX10_first ({ frames := 3, cells := 0, slots := 0, locals := 69 }) (va_Pc [.ref h0, .int a1, .int a2, .int a3] (pw (dC, dI) vwCl [(h0, .inr (8, [.int 0, .ref m_world, .ref m_images, .ref m_hasImage, .ref m_luck, .ref m_tape, .int 0, .ref m_five, .int 0, .int 0, .int 0, .int 0, .int 0, .int 0, .int (-1), .ref m_fresh, .ref m_waits, .int 0, .int 0, .int 0, .ref m_figures, .ref m_pile, .long 0, .ref m_times, .ref m_far, .ref m_queue, .ref m_months, .ref m_ways, .ref m_waysOn, .ref m_many, .ref m_width, .ref m_numbers, .ref m_moving])), (m_world, .inl (cI, 1875, .inl (fun _ => 0)))] [(cI, .int)])) (vp_Si (fun r => r = (-2))) 0 0 (fun _ => False) := by
  refine Met.ofW (cc := cX10_first) (maxL := 5) (ret := (some .int)) (by decide) rfl ?_
  intro p e s m args below meth c s₁ B hml hv
  obtain ⟨rfl, hP, hK, hN⟩ := hv
  have hx := B.exec
  have hb := B.bytes
  have hr := B.returns
  have hts := atoms_spec (ws := uX10_first) B.pre
  have hown : s.vm.findClass RX10 = some m.cls := findClass_of_methodNamed B.named
  have hlocks := B.notSynchronized
  have hl := lv_entry ([.ref h0, .int a1, .int a2, .int a3]) (n := 5) (Nat.le_of_ble_eq_true rfl)
  rw [lg_entry_eq]
  generalize (lg_sl ([.ref h0, .int a1, .int a2, .int a3]) ++ List.replicate (5 - (lg_sl ([.ref h0, .int a1, .int a2, .int a3])).length) Slot.unset).toArray = ls at hl ⊢
  have hl : lv_has ls 5 [(0, .ref h0), (1, .int a1), (2, .int a2), (3, .int a3)] := hl
  refine lv_aload_n hx hb dX10_first_0 rfl (lv_at hl 0 rfl) ?_
  refine lv_iload_n hx hb dX10_first_1 rfl (lv_at hl 1 rfl) ?_
  refine lv_iload_n hx hb dX10_first_2 rfl (lv_at hl 2 rfl) ?_
  refine lv_iload_n hx hb dX10_first_3 rfl (lv_at hl 3 rfl) ?_
  refine vp_callSi (W.runV (As := [.int a1, .int a2, .int a3]) (rest := []) ⟨hx, hb, hml, hown, hts⟩ (kX10_isSale l dC dI h0 m_world m_images m_hasImage m_luck m_tape m_five m_fresh m_waits m_figures m_pile m_times m_far m_queue m_months m_ways m_waysOn m_many m_width m_numbers m_moving cI a1 a2 a3) (cwV 3 hts gX10_first__X10_isSale_V410 rfl rfl rfl (by decide +kernel) ⟨lel 3 3 rfl, lel 69 69 rfl⟩) ⟨pw_fb, va_recv hK hP (ci := 8) (q0 := 0) rfl rfl, (pw_use hP hK hN [0, 1] rfl [0] rfl)⟩ rfl rfl hl.1 rfl (lv_room (Nat.le_of_ble_eq_true rfl)) dX10_first_4 ⟨lel 0 0 rfl, lel 0 0 rfl⟩) (fun r_1 hr_1 => ?_)
  obtain rfl : r_1 = 0 := hr_1
  refine lv_if_ne (tgt := 13) hx hb dX10_first_7 (by decide) (fun c_2 => absurd c_2 (by decide)) (fun _ => ?_)
  refine lv_bipush (v := (-2)) hx hb dX10_first_10 (by decide) ?_
  exact W.iret (v := (-2)) hx hb hr (fun t ht hW => ⟨(-2), rfl, rfl, ht⟩) t_nil dX10_first_12
theorem dX10_seldom_0 : decode cX10_seldom 0 = .ok (.aload_n 0, 1) := by decide +kernel
theorem dX10_seldom_1 : decode cX10_seldom 1 = .ok (.iload_n 1, 1) := by decide +kernel
theorem dX10_seldom_2 : decode cX10_seldom 2 = .ok (.invokevirtual 89, 3) := by decide +kernel
theorem dX10_seldom_5 : decode cX10_seldom 5 = .ok (.ifCond .eq 27, 3) := by decide +kernel
theorem dX10_seldom_32 : decode cX10_seldom 32 = .ok (.ldc2_w 416, 3) := by decide +kernel
theorem dX10_seldom_35 : decode cX10_seldom 35 = .ok (.lreturn, 1) := by decide +kernel
def uX10_seldom : List Cond := .code yX10_seldom cX10_seldom 9 (some .long) :: ([.methodLink RX10 89 yX10_isLaw, .instanceMethod yX10_isLaw, .selects RX10 yX10_isLaw yX10_isLaw, .initialized RX10, .code yX10_isLaw cX10_isLaw 2 (some .boolean), .fieldLink RX10 9 "LuckyTicketModel" "world" "[I", .methodLink RX10 82 yX10_in, .static yX10_in, .code yX10_in cX10_in 6 (some .boolean), .constantLong RX10 416 (-2)] ++ wsX100)
theorem iX10_seldom_X10 : ∀ w ∈ wsX100, w ∈ uX10_seldom := fun _ h => List.mem_cons_of_mem _ (List.mem_append_right _ h)
set_option maxRecDepth 20000 in
theorem gX10_seldom__X10_isLaw_V89 : GoodIn uX10_seldom (wsV RX10 89 RX10 yX10_isLaw uX10_isLaw) := goodIn_p _ [5, 9] rfl (by decide +kernel)
set_option maxHeartbeats 4000000 in
set_option maxRecDepth 100000 in
theorem kX10_seldom (l : Launch) (dC : Nat → ClassId) (dI : Nat → Nat → Nat) (h0 : Nat) (m_world : Nat) (m_images : Nat) (m_hasImage : Nat) (m_luck : Nat) (m_tape : Nat) (m_five : Nat) (m_fresh : Nat) (m_waits : Nat) (m_figures : Nat) (m_pile : Nat) (m_times : Nat) (m_far : Nat) (m_queue : Nat) (m_months : Nat) (m_ways : Nat) (m_waysOn : Nat) (m_many : Nat) (m_width : Nat) (m_numbers : Nat) (m_moving : Nat) (cI : ClassId) (a1 : Int32) (a2 : Int32) (a3 : Int32) : Met l yX10_seldom uX10_seldom ({ frames := 2, cells := 0, slots := 0, locals := 46 }) (va_Pc [.ref h0, .int a1, .int a2, .int a3] (pw (dC, dI) vwCl [(h0, .inr (8, [.int 0, .ref m_world, .ref m_images, .ref m_hasImage, .ref m_luck, .ref m_tape, .int 0, .ref m_five, .int 0, .int 0, .int 0, .int 0, .int 0, .int 0, .int (-1), .ref m_fresh, .ref m_waits, .int 0, .int 0, .int 0, .ref m_figures, .ref m_pile, .long 0, .ref m_times, .ref m_far, .ref m_queue, .ref m_months, .ref m_ways, .ref m_waysOn, .ref m_many, .ref m_width, .ref m_numbers, .ref m_moving])), (m_world, .inl (cI, 1875, .inl (fun _ => 0)))] [(cI, .int)])) (vp_Sl (fun r => r = (-2))) 0 0 (fun _ => False) := by
  refine Met.ofW (cc := cX10_seldom) (maxL := 9) (ret := (some .long)) (by decide) rfl ?_
  intro p e s m args below meth c s₁ B hml hv
  obtain ⟨rfl, hP, hK, hN⟩ := hv
  have hx := B.exec
  have hb := B.bytes
  have hr := B.returns
  have hts := atoms_spec (ws := uX10_seldom) B.pre
  have hown : s.vm.findClass RX10 = some m.cls := findClass_of_methodNamed B.named
  have hlocks := B.notSynchronized
  have hl := lv_entry ([.ref h0, .int a1, .int a2, .int a3]) (n := 9) (Nat.le_of_ble_eq_true rfl)
  rw [lg_entry_eq]
  generalize (lg_sl ([.ref h0, .int a1, .int a2, .int a3]) ++ List.replicate (9 - (lg_sl ([.ref h0, .int a1, .int a2, .int a3])).length) Slot.unset).toArray = ls at hl ⊢
  have hl : lv_has ls 9 [(0, .ref h0), (1, .int a1), (2, .int a2), (3, .int a3)] := hl
  refine lv_aload_n hx hb dX10_seldom_0 rfl (lv_at hl 0 rfl) ?_
  refine lv_iload_n hx hb dX10_seldom_1 rfl (lv_at hl 1 rfl) ?_
  refine vp_callSi (W.runV (As := [.int a1]) (rest := []) ⟨hx, hb, hml, hown, hts⟩ (kX10_isLaw l dC dI h0 m_world m_images m_hasImage m_luck m_tape m_five m_fresh m_waits m_figures m_pile m_times m_far m_queue m_months m_ways m_waysOn m_many m_width m_numbers m_moving cI a1) (cwV 1 hts gX10_seldom__X10_isLaw_V89 rfl rfl rfl (by decide +kernel) ⟨lel 2 2 rfl, lel 46 46 rfl⟩) ⟨pw_fb, va_recv hK hP (ci := 8) (q0 := 0) rfl rfl, (pw_use hP hK hN [0, 1] rfl [0] rfl)⟩ rfl rfl hl.1 rfl (lv_room (Nat.le_of_ble_eq_true rfl)) dX10_seldom_2 ⟨lel 0 0 rfl, lel 0 0 rfl⟩) (fun r_1 hr_1 => ?_)
  obtain rfl : r_1 = 0 := hr_1
  refine lv_if_eq (tgt := 32) hx hb dX10_seldom_5 (by decide) (fun _ => ?_) (fun c_2 => absurd c_2 (by decide))
  refine lv_ldc2 (v := (-2)) hx hb hown (hts (.constantLong RX10 416 (-2)) (List.mem_of_getElem? (i := 10) rfl)) dX10_seldom_32 ?_
  exact W.lret (v := (-2)) hx hb hr (fun t ht hW => ⟨(-2), rfl, rfl, ht⟩) t_nil dX10_seldom_35
theorem dX10_sets_0 : decode cX10_sets 0 = .ok (.aload_n 0, 1) := by decide +kernel
theorem dX10_sets_1 : decode cX10_sets 1 = .ok (.invokevirtual 355, 3) := by decide +kernel
theorem dX10_sets_4 : decode cX10_sets 4 = .ok (.ifCond .eq 29, 3) := by decide +kernel
theorem dX10_sets_33 : decode cX10_sets 33 = .ok (.ldc2_w 416, 3) := by decide +kernel
theorem dX10_sets_36 : decode cX10_sets 36 = .ok (.lreturn, 1) := by decide +kernel
def uX10_sets : List Cond := .code yX10_sets cX10_sets 2 (some .long) :: ([.methodLink RX10 355 yX10_isRoll, .instanceMethod yX10_isRoll, .selects RX10 yX10_isRoll yX10_isRoll, .initialized RX10, .code yX10_isRoll cX10_isRoll 1 (some .boolean), .fieldLink RX10 9 "LuckyTicketModel" "world" "[I", .constantLong RX10 416 (-2)] ++ wsX100)
theorem iX10_sets_X10 : ∀ w ∈ wsX100, w ∈ uX10_sets := fun _ h => List.mem_cons_of_mem _ (List.mem_append_right _ h)
set_option maxRecDepth 20000 in
theorem gX10_sets__X10_isRoll_V355 : GoodIn uX10_sets (wsV RX10 355 RX10 yX10_isRoll uX10_isRoll) := goodIn_p _ [5] rfl (by decide +kernel)
set_option maxHeartbeats 4000000 in
set_option maxRecDepth 100000 in
theorem kX10_sets (l : Launch) (dC : Nat → ClassId) (dI : Nat → Nat → Nat) (h0 : Nat) (m_world : Nat) (m_images : Nat) (m_hasImage : Nat) (m_luck : Nat) (m_tape : Nat) (m_five : Nat) (m_fresh : Nat) (m_waits : Nat) (m_figures : Nat) (m_pile : Nat) (m_times : Nat) (m_far : Nat) (m_queue : Nat) (m_months : Nat) (m_ways : Nat) (m_waysOn : Nat) (m_many : Nat) (m_width : Nat) (m_numbers : Nat) (m_moving : Nat) (cI : ClassId) (a1 : Int32) : Met l yX10_sets uX10_sets ({ frames := 1, cells := 0, slots := 0, locals := 20 }) (va_Pc [.ref h0, .int a1] (pw (dC, dI) vwCl [(h0, .inr (8, [.int 0, .ref m_world, .ref m_images, .ref m_hasImage, .ref m_luck, .ref m_tape, .int 0, .ref m_five, .int 0, .int 0, .int 0, .int 0, .int 0, .int 0, .int (-1), .ref m_fresh, .ref m_waits, .int 0, .int 0, .int 0, .ref m_figures, .ref m_pile, .long 0, .ref m_times, .ref m_far, .ref m_queue, .ref m_months, .ref m_ways, .ref m_waysOn, .ref m_many, .ref m_width, .ref m_numbers, .ref m_moving])), (m_world, .inl (cI, 1875, .inl (fun _ => 0)))] [(cI, .int)])) (vp_Sl (fun r => r = (-2))) 0 0 (fun _ => False) := by
  refine Met.ofW (cc := cX10_sets) (maxL := 2) (ret := (some .long)) (by decide) rfl ?_
  intro p e s m args below meth c s₁ B hml hv
  obtain ⟨rfl, hP, hK, hN⟩ := hv
  have hx := B.exec
  have hb := B.bytes
  have hr := B.returns
  have hts := atoms_spec (ws := uX10_sets) B.pre
  have hown : s.vm.findClass RX10 = some m.cls := findClass_of_methodNamed B.named
  have hlocks := B.notSynchronized
  have hl := lv_entry ([.ref h0, .int a1]) (n := 2) (Nat.le_of_ble_eq_true rfl)
  rw [lg_entry_eq]
  generalize (lg_sl ([.ref h0, .int a1]) ++ List.replicate (2 - (lg_sl ([.ref h0, .int a1])).length) Slot.unset).toArray = ls at hl ⊢
  have hl : lv_has ls 2 [(0, .ref h0), (1, .int a1)] := hl
  refine lv_aload_n hx hb dX10_sets_0 rfl (lv_at hl 0 rfl) ?_
  refine vp_callSi (W.runV (As := []) (rest := []) ⟨hx, hb, hml, hown, hts⟩ (kX10_isRoll l dC dI h0 m_world m_images m_hasImage m_luck m_tape m_five m_fresh m_waits m_figures m_pile m_times m_far m_queue m_months m_ways m_waysOn m_many m_width m_numbers m_moving cI) (cwV 0 hts gX10_sets__X10_isRoll_V355 rfl rfl rfl (by decide +kernel) ⟨lel 1 1 rfl, lel 20 20 rfl⟩) ⟨pw_fb, va_recv hK hP (ci := 8) (q0 := 0) rfl rfl, (pw_use hP hK hN [0, 1] rfl [0] rfl)⟩ rfl rfl hl.1 rfl (lv_room (Nat.le_of_ble_eq_true rfl)) dX10_sets_1 ⟨lel 0 0 rfl, lel 0 0 rfl⟩) (fun r_1 hr_1 => ?_)
  obtain rfl : r_1 = 0 := hr_1
  refine lv_if_eq (tgt := 33) hx hb dX10_sets_4 (by decide) (fun _ => ?_) (fun c_2 => absurd c_2 (by decide))
  refine lv_ldc2 (v := (-2)) hx hb hown (hts (.constantLong RX10 416 (-2)) (List.mem_of_getElem? (i := 7) rfl)) dX10_sets_33 ?_
  exact W.lret (v := (-2)) hx hb hr (fun t ht hW => ⟨(-2), rfl, rfl, ht⟩) t_nil dX10_sets_36
theorem dX10_between_0 : decode cX10_between 0 = .ok (.aload_n 0, 1) := by decide +kernel
theorem dX10_between_1 : decode cX10_between 1 = .ok (.iload_n 1, 1) := by decide +kernel
theorem dX10_between_2 : decode cX10_between 2 = .ok (.iload_n 2, 1) := by decide +kernel
theorem dX10_between_3 : decode cX10_between 3 = .ok (.invokevirtual 313, 3) := by decide +kernel
theorem dX10_between_6 : decode cX10_between 6 = .ok (.ifCond .eq 40, 3) := by decide +kernel
theorem dX10_between_46 : decode cX10_between 46 = .ok (.bipush (-2), 2) := by decide +kernel
theorem dX10_between_48 : decode cX10_between 48 = .ok (.ireturn, 1) := by decide +kernel
def uX10_between : List Cond := .code yX10_between cX10_between 4 (some .int) :: ([.methodLink RX10 313 yX10_isBoth, .instanceMethod yX10_isBoth, .selects RX10 yX10_isBoth yX10_isBoth, .initialized RX10, .code yX10_isBoth cX10_isBoth 3 (some .boolean), .methodLink RX10 89 yX10_isLaw, .instanceMethod yX10_isLaw, .selects RX10 yX10_isLaw yX10_isLaw, .code yX10_isLaw cX10_isLaw 2 (some .boolean), .fieldLink RX10 9 "LuckyTicketModel" "world" "[I", .methodLink RX10 82 yX10_in, .static yX10_in, .code yX10_in cX10_in 6 (some .boolean)] ++ wsX100)
theorem iX10_between_X10 : ∀ w ∈ wsX100, w ∈ uX10_between := fun _ h => List.mem_cons_of_mem _ (List.mem_append_right _ h)
set_option maxRecDepth 20000 in
theorem gX10_between__X10_isBoth_V313 : GoodIn uX10_between (wsV RX10 313 RX10 yX10_isBoth uX10_isBoth) := goodIn_p _ [5, 9, 13] rfl (by decide +kernel)
set_option maxHeartbeats 4000000 in
set_option maxRecDepth 100000 in
theorem kX10_between (l : Launch) (dC : Nat → ClassId) (dI : Nat → Nat → Nat) (h0 : Nat) (m_world : Nat) (m_images : Nat) (m_hasImage : Nat) (m_luck : Nat) (m_tape : Nat) (m_five : Nat) (m_fresh : Nat) (m_waits : Nat) (m_figures : Nat) (m_pile : Nat) (m_times : Nat) (m_far : Nat) (m_queue : Nat) (m_months : Nat) (m_ways : Nat) (m_waysOn : Nat) (m_many : Nat) (m_width : Nat) (m_numbers : Nat) (m_moving : Nat) (cI : ClassId) (a1 : Int32) (a2 : Int32) (a3 : Int32) : Met l yX10_between uX10_between ({ frames := 3, cells := 0, slots := 0, locals := 68 }) (va_Pc [.ref h0, .int a1, .int a2, .int a3] (pw (dC, dI) vwCl [(h0, .inr (8, [.int 0, .ref m_world, .ref m_images, .ref m_hasImage, .ref m_luck, .ref m_tape, .int 0, .ref m_five, .int 0, .int 0, .int 0, .int 0, .int 0, .int 0, .int (-1), .ref m_fresh, .ref m_waits, .int 0, .int 0, .int 0, .ref m_figures, .ref m_pile, .long 0, .ref m_times, .ref m_far, .ref m_queue, .ref m_months, .ref m_ways, .ref m_waysOn, .ref m_many, .ref m_width, .ref m_numbers, .ref m_moving])), (m_world, .inl (cI, 1875, .inl (fun _ => 0)))] [(cI, .int)])) (vp_Si (fun r => r = (-2))) 0 0 (fun _ => False) := by
  refine Met.ofW (cc := cX10_between) (maxL := 4) (ret := (some .int)) (by decide) rfl ?_
  intro p e s m args below meth c s₁ B hml hv
  obtain ⟨rfl, hP, hK, hN⟩ := hv
  have hx := B.exec
  have hb := B.bytes
  have hr := B.returns
  have hts := atoms_spec (ws := uX10_between) B.pre
  have hown : s.vm.findClass RX10 = some m.cls := findClass_of_methodNamed B.named
  have hlocks := B.notSynchronized
  have hl := lv_entry ([.ref h0, .int a1, .int a2, .int a3]) (n := 4) (Nat.le_of_ble_eq_true rfl)
  rw [lg_entry_eq]
  generalize (lg_sl ([.ref h0, .int a1, .int a2, .int a3]) ++ List.replicate (4 - (lg_sl ([.ref h0, .int a1, .int a2, .int a3])).length) Slot.unset).toArray = ls at hl ⊢
  have hl : lv_has ls 4 [(0, .ref h0), (1, .int a1), (2, .int a2), (3, .int a3)] := hl
  refine lv_aload_n hx hb dX10_between_0 rfl (lv_at hl 0 rfl) ?_
  refine lv_iload_n hx hb dX10_between_1 rfl (lv_at hl 1 rfl) ?_
  refine lv_iload_n hx hb dX10_between_2 rfl (lv_at hl 2 rfl) ?_
  refine vp_callSi (W.runV (As := [.int a1, .int a2]) (rest := []) ⟨hx, hb, hml, hown, hts⟩ (kX10_isBoth l dC dI h0 m_world m_images m_hasImage m_luck m_tape m_five m_fresh m_waits m_figures m_pile m_times m_far m_queue m_months m_ways m_waysOn m_many m_width m_numbers m_moving cI a1 a2) (cwV 2 hts gX10_between__X10_isBoth_V313 rfl rfl rfl (by decide +kernel) ⟨lel 3 3 rfl, lel 68 68 rfl⟩) ⟨pw_fb, va_recv hK hP (ci := 8) (q0 := 0) rfl rfl, (pw_use hP hK hN [0, 1] rfl [0] rfl)⟩ rfl rfl hl.1 rfl (lv_room (Nat.le_of_ble_eq_true rfl)) dX10_between_3 ⟨lel 0 0 rfl, lel 0 0 rfl⟩) (fun r_1 hr_1 => ?_)
  obtain rfl : r_1 = 0 := hr_1
  refine lv_if_eq (tgt := 46) hx hb dX10_between_6 (by decide) (fun _ => ?_) (fun c_2 => absurd c_2 (by decide))
  refine lv_bipush (v := (-2)) hx hb dX10_between_46 (by decide) ?_
  exact W.iret (v := (-2)) hx hb hr (fun t ht hW => ⟨(-2), rfl, rfl, ht⟩) t_nil dX10_between_48
theorem dX10_run_0 : decode cX10_run 0 = .ok (.aload_n 0, 1) := by decide +kernel
theorem dX10_run_1 : decode cX10_run 1 = .ok (.iload_n 1, 1) := by decide +kernel
theorem dX10_run_2 : decode cX10_run 2 = .ok (.invokevirtual 89, 3) := by decide +kernel
theorem dX10_run_5 : decode cX10_run 5 = .ok (.ifCond .eq 13, 3) := by decide +kernel
theorem dX10_run_18 : decode cX10_run 18 = .ok (.bipush (-2), 2) := by decide +kernel
theorem dX10_run_20 : decode cX10_run 20 = .ok (.ireturn, 1) := by decide +kernel
def uX10_run : List Cond := .code yX10_run cX10_run 7 (some .int) :: ([.methodLink RX10 89 yX10_isLaw, .instanceMethod yX10_isLaw, .selects RX10 yX10_isLaw yX10_isLaw, .initialized RX10, .code yX10_isLaw cX10_isLaw 2 (some .boolean), .fieldLink RX10 9 "LuckyTicketModel" "world" "[I", .methodLink RX10 82 yX10_in, .static yX10_in, .code yX10_in cX10_in 6 (some .boolean)] ++ wsX100)
theorem iX10_run_X10 : ∀ w ∈ wsX100, w ∈ uX10_run := fun _ h => List.mem_cons_of_mem _ (List.mem_append_right _ h)
set_option maxRecDepth 20000 in
theorem gX10_run__X10_isLaw_V89 : GoodIn uX10_run (wsV RX10 89 RX10 yX10_isLaw uX10_isLaw) := goodIn_p _ [5, 9] rfl (by decide +kernel)
set_option maxHeartbeats 4000000 in
set_option maxRecDepth 100000 in
theorem kX10_run (l : Launch) (dC : Nat → ClassId) (dI : Nat → Nat → Nat) (h0 : Nat) (m_world : Nat) (m_images : Nat) (m_hasImage : Nat) (m_luck : Nat) (m_tape : Nat) (m_five : Nat) (m_fresh : Nat) (m_waits : Nat) (m_figures : Nat) (m_pile : Nat) (m_times : Nat) (m_far : Nat) (m_queue : Nat) (m_months : Nat) (m_ways : Nat) (m_waysOn : Nat) (m_many : Nat) (m_width : Nat) (m_numbers : Nat) (m_moving : Nat) (cI : ClassId) (a1 : Int32) (a2 : Int32) : Met l yX10_run uX10_run ({ frames := 2, cells := 0, slots := 0, locals := 46 }) (va_Pc [.ref h0, .int a1, .int a2] (pw (dC, dI) vwCl [(h0, .inr (8, [.int 0, .ref m_world, .ref m_images, .ref m_hasImage, .ref m_luck, .ref m_tape, .int 0, .ref m_five, .int 0, .int 0, .int 0, .int 0, .int 0, .int 0, .int (-1), .ref m_fresh, .ref m_waits, .int 0, .int 0, .int 0, .ref m_figures, .ref m_pile, .long 0, .ref m_times, .ref m_far, .ref m_queue, .ref m_months, .ref m_ways, .ref m_waysOn, .ref m_many, .ref m_width, .ref m_numbers, .ref m_moving])), (m_world, .inl (cI, 1875, .inl (fun _ => 0)))] [(cI, .int)])) (vp_Si (fun r => r = (-2))) 0 0 (fun _ => False) := by
  refine Met.ofW (cc := cX10_run) (maxL := 7) (ret := (some .int)) (by decide) rfl ?_
  intro p e s m args below meth c s₁ B hml hv
  obtain ⟨rfl, hP, hK, hN⟩ := hv
  have hx := B.exec
  have hb := B.bytes
  have hr := B.returns
  have hts := atoms_spec (ws := uX10_run) B.pre
  have hown : s.vm.findClass RX10 = some m.cls := findClass_of_methodNamed B.named
  have hlocks := B.notSynchronized
  have hl := lv_entry ([.ref h0, .int a1, .int a2]) (n := 7) (Nat.le_of_ble_eq_true rfl)
  rw [lg_entry_eq]
  generalize (lg_sl ([.ref h0, .int a1, .int a2]) ++ List.replicate (7 - (lg_sl ([.ref h0, .int a1, .int a2])).length) Slot.unset).toArray = ls at hl ⊢
  have hl : lv_has ls 7 [(0, .ref h0), (1, .int a1), (2, .int a2)] := hl
  refine lv_aload_n hx hb dX10_run_0 rfl (lv_at hl 0 rfl) ?_
  refine lv_iload_n hx hb dX10_run_1 rfl (lv_at hl 1 rfl) ?_
  refine vp_callSi (W.runV (As := [.int a1]) (rest := []) ⟨hx, hb, hml, hown, hts⟩ (kX10_isLaw l dC dI h0 m_world m_images m_hasImage m_luck m_tape m_five m_fresh m_waits m_figures m_pile m_times m_far m_queue m_months m_ways m_waysOn m_many m_width m_numbers m_moving cI a1) (cwV 1 hts gX10_run__X10_isLaw_V89 rfl rfl rfl (by decide +kernel) ⟨lel 2 2 rfl, lel 46 46 rfl⟩) ⟨pw_fb, va_recv hK hP (ci := 8) (q0 := 0) rfl rfl, (pw_use hP hK hN [0, 1] rfl [0] rfl)⟩ rfl rfl hl.1 rfl (lv_room (Nat.le_of_ble_eq_true rfl)) dX10_run_2 ⟨lel 0 0 rfl, lel 0 0 rfl⟩) (fun r_1 hr_1 => ?_)
  obtain rfl : r_1 = 0 := hr_1
  refine lv_if_eq (tgt := 18) hx hb dX10_run_5 (by decide) (fun _ => ?_) (fun c_2 => absurd c_2 (by decide))
  refine lv_bipush (v := (-2)) hx hb dX10_run_18 (by decide) ?_
  exact W.iret (v := (-2)) hx hb hr (fun t ht hW => ⟨(-2), rfl, rfl, ht⟩) t_nil dX10_run_20
theorem dX10_window_0 : decode cX10_window 0 = .ok (.aload_n 0, 1) := by decide +kernel
theorem dX10_window_1 : decode cX10_window 1 = .ok (.iload_n 1, 1) := by decide +kernel
theorem dX10_window_2 : decode cX10_window 2 = .ok (.invokevirtual 89, 3) := by decide +kernel
theorem dX10_window_5 : decode cX10_window 5 = .ok (.ifCond .eq 31, 3) := by decide +kernel
theorem dX10_window_36 : decode cX10_window 36 = .ok (.bipush (-2), 2) := by decide +kernel
theorem dX10_window_38 : decode cX10_window 38 = .ok (.ireturn, 1) := by decide +kernel
def uX10_window : List Cond := .code yX10_window cX10_window 10 (some .int) :: ([.methodLink RX10 89 yX10_isLaw, .instanceMethod yX10_isLaw, .selects RX10 yX10_isLaw yX10_isLaw, .initialized RX10, .code yX10_isLaw cX10_isLaw 2 (some .boolean), .fieldLink RX10 9 "LuckyTicketModel" "world" "[I", .methodLink RX10 82 yX10_in, .static yX10_in, .code yX10_in cX10_in 6 (some .boolean)] ++ wsX100)
theorem iX10_window_X10 : ∀ w ∈ wsX100, w ∈ uX10_window := fun _ h => List.mem_cons_of_mem _ (List.mem_append_right _ h)
set_option maxRecDepth 20000 in
theorem gX10_window__X10_isLaw_V89 : GoodIn uX10_window (wsV RX10 89 RX10 yX10_isLaw uX10_isLaw) := goodIn_p _ [5, 9] rfl (by decide +kernel)
set_option maxHeartbeats 4000000 in
set_option maxRecDepth 100000 in
theorem kX10_window (l : Launch) (dC : Nat → ClassId) (dI : Nat → Nat → Nat) (h0 : Nat) (m_world : Nat) (m_images : Nat) (m_hasImage : Nat) (m_luck : Nat) (m_tape : Nat) (m_five : Nat) (m_fresh : Nat) (m_waits : Nat) (m_figures : Nat) (m_pile : Nat) (m_times : Nat) (m_far : Nat) (m_queue : Nat) (m_months : Nat) (m_ways : Nat) (m_waysOn : Nat) (m_many : Nat) (m_width : Nat) (m_numbers : Nat) (m_moving : Nat) (cI : ClassId) (a1 : Int32) (a2 : Int32) (a3 : Int32) : Met l yX10_window uX10_window ({ frames := 2, cells := 0, slots := 0, locals := 46 }) (va_Pc [.ref h0, .int a1, .int a2, .int a3] (pw (dC, dI) vwCl [(h0, .inr (8, [.int 0, .ref m_world, .ref m_images, .ref m_hasImage, .ref m_luck, .ref m_tape, .int 0, .ref m_five, .int 0, .int 0, .int 0, .int 0, .int 0, .int 0, .int (-1), .ref m_fresh, .ref m_waits, .int 0, .int 0, .int 0, .ref m_figures, .ref m_pile, .long 0, .ref m_times, .ref m_far, .ref m_queue, .ref m_months, .ref m_ways, .ref m_waysOn, .ref m_many, .ref m_width, .ref m_numbers, .ref m_moving])), (m_world, .inl (cI, 1875, .inl (fun _ => 0)))] [(cI, .int)])) (vp_Si (fun r => r = (-2))) 0 0 (fun _ => False) := by
  refine Met.ofW (cc := cX10_window) (maxL := 10) (ret := (some .int)) (by decide) rfl ?_
  intro p e s m args below meth c s₁ B hml hv
  obtain ⟨rfl, hP, hK, hN⟩ := hv
  have hx := B.exec
  have hb := B.bytes
  have hr := B.returns
  have hts := atoms_spec (ws := uX10_window) B.pre
  have hown : s.vm.findClass RX10 = some m.cls := findClass_of_methodNamed B.named
  have hlocks := B.notSynchronized
  have hl := lv_entry ([.ref h0, .int a1, .int a2, .int a3]) (n := 10) (Nat.le_of_ble_eq_true rfl)
  rw [lg_entry_eq]
  generalize (lg_sl ([.ref h0, .int a1, .int a2, .int a3]) ++ List.replicate (10 - (lg_sl ([.ref h0, .int a1, .int a2, .int a3])).length) Slot.unset).toArray = ls at hl ⊢
  have hl : lv_has ls 10 [(0, .ref h0), (1, .int a1), (2, .int a2), (3, .int a3)] := hl
  refine lv_aload_n hx hb dX10_window_0 rfl (lv_at hl 0 rfl) ?_
  refine lv_iload_n hx hb dX10_window_1 rfl (lv_at hl 1 rfl) ?_
  refine vp_callSi (W.runV (As := [.int a1]) (rest := []) ⟨hx, hb, hml, hown, hts⟩ (kX10_isLaw l dC dI h0 m_world m_images m_hasImage m_luck m_tape m_five m_fresh m_waits m_figures m_pile m_times m_far m_queue m_months m_ways m_waysOn m_many m_width m_numbers m_moving cI a1) (cwV 1 hts gX10_window__X10_isLaw_V89 rfl rfl rfl (by decide +kernel) ⟨lel 2 2 rfl, lel 46 46 rfl⟩) ⟨pw_fb, va_recv hK hP (ci := 8) (q0 := 0) rfl rfl, (pw_use hP hK hN [0, 1] rfl [0] rfl)⟩ rfl rfl hl.1 rfl (lv_room (Nat.le_of_ble_eq_true rfl)) dX10_window_2 ⟨lel 0 0 rfl, lel 0 0 rfl⟩) (fun r_1 hr_1 => ?_)
  obtain rfl : r_1 = 0 := hr_1
  refine lv_if_eq (tgt := 36) hx hb dX10_window_5 (by decide) (fun _ => ?_) (fun c_2 => absurd c_2 (by decide))
  refine lv_bipush (v := (-2)) hx hb dX10_window_36 (by decide) ?_
  exact W.iret (v := (-2)) hx hb hr (fun t ht hW => ⟨(-2), rfl, rfl, ht⟩) t_nil dX10_window_38
theorem dX10_have_0 : decode cX10_have 0 = .ok (.aload_n 0, 1) := by decide +kernel
theorem dX10_have_1 : decode cX10_have 1 = .ok (.iload_n 1, 1) := by decide +kernel
theorem dX10_have_2 : decode cX10_have 2 = .ok (.invokevirtual 89, 3) := by decide +kernel
theorem dX10_have_5 : decode cX10_have 5 = .ok (.ifCond .eq 7, 3) := by decide +kernel
theorem dX10_have_12 : decode cX10_have 12 = .ok (.bipush (-2), 2) := by decide +kernel
theorem dX10_have_14 : decode cX10_have 14 = .ok (.ireturn, 1) := by decide +kernel
def uX10_have : List Cond := .code yX10_have cX10_have 5 (some .int) :: ([.methodLink RX10 89 yX10_isLaw, .instanceMethod yX10_isLaw, .selects RX10 yX10_isLaw yX10_isLaw, .initialized RX10, .code yX10_isLaw cX10_isLaw 2 (some .boolean), .fieldLink RX10 9 "LuckyTicketModel" "world" "[I", .methodLink RX10 82 yX10_in, .static yX10_in, .code yX10_in cX10_in 6 (some .boolean)] ++ wsX100)
theorem iX10_have_X10 : ∀ w ∈ wsX100, w ∈ uX10_have := fun _ h => List.mem_cons_of_mem _ (List.mem_append_right _ h)
set_option maxRecDepth 20000 in
theorem gX10_have__X10_isLaw_V89 : GoodIn uX10_have (wsV RX10 89 RX10 yX10_isLaw uX10_isLaw) := goodIn_p _ [5, 9] rfl (by decide +kernel)
set_option maxHeartbeats 4000000 in
set_option maxRecDepth 100000 in
theorem kX10_have (l : Launch) (dC : Nat → ClassId) (dI : Nat → Nat → Nat) (h0 : Nat) (m_world : Nat) (m_images : Nat) (m_hasImage : Nat) (m_luck : Nat) (m_tape : Nat) (m_five : Nat) (m_fresh : Nat) (m_waits : Nat) (m_figures : Nat) (m_pile : Nat) (m_times : Nat) (m_far : Nat) (m_queue : Nat) (m_months : Nat) (m_ways : Nat) (m_waysOn : Nat) (m_many : Nat) (m_width : Nat) (m_numbers : Nat) (m_moving : Nat) (cI : ClassId) (a1 : Int32) (a2 : Int32) : Met l yX10_have uX10_have ({ frames := 2, cells := 0, slots := 0, locals := 46 }) (va_Pc [.ref h0, .int a1, .int a2] (pw (dC, dI) vwCl [(h0, .inr (8, [.int 0, .ref m_world, .ref m_images, .ref m_hasImage, .ref m_luck, .ref m_tape, .int 0, .ref m_five, .int 0, .int 0, .int 0, .int 0, .int 0, .int 0, .int (-1), .ref m_fresh, .ref m_waits, .int 0, .int 0, .int 0, .ref m_figures, .ref m_pile, .long 0, .ref m_times, .ref m_far, .ref m_queue, .ref m_months, .ref m_ways, .ref m_waysOn, .ref m_many, .ref m_width, .ref m_numbers, .ref m_moving])), (m_world, .inl (cI, 1875, .inl (fun _ => 0)))] [(cI, .int)])) (vp_Si (fun r => r = (-2))) 0 0 (fun _ => False) := by
  refine Met.ofW (cc := cX10_have) (maxL := 5) (ret := (some .int)) (by decide) rfl ?_
  intro p e s m args below meth c s₁ B hml hv
  obtain ⟨rfl, hP, hK, hN⟩ := hv
  have hx := B.exec
  have hb := B.bytes
  have hr := B.returns
  have hts := atoms_spec (ws := uX10_have) B.pre
  have hown : s.vm.findClass RX10 = some m.cls := findClass_of_methodNamed B.named
  have hlocks := B.notSynchronized
  have hl := lv_entry ([.ref h0, .int a1, .int a2]) (n := 5) (Nat.le_of_ble_eq_true rfl)
  rw [lg_entry_eq]
  generalize (lg_sl ([.ref h0, .int a1, .int a2]) ++ List.replicate (5 - (lg_sl ([.ref h0, .int a1, .int a2])).length) Slot.unset).toArray = ls at hl ⊢
  have hl : lv_has ls 5 [(0, .ref h0), (1, .int a1), (2, .int a2)] := hl
  refine lv_aload_n hx hb dX10_have_0 rfl (lv_at hl 0 rfl) ?_
  refine lv_iload_n hx hb dX10_have_1 rfl (lv_at hl 1 rfl) ?_
  refine vp_callSi (W.runV (As := [.int a1]) (rest := []) ⟨hx, hb, hml, hown, hts⟩ (kX10_isLaw l dC dI h0 m_world m_images m_hasImage m_luck m_tape m_five m_fresh m_waits m_figures m_pile m_times m_far m_queue m_months m_ways m_waysOn m_many m_width m_numbers m_moving cI a1) (cwV 1 hts gX10_have__X10_isLaw_V89 rfl rfl rfl (by decide +kernel) ⟨lel 2 2 rfl, lel 46 46 rfl⟩) ⟨pw_fb, va_recv hK hP (ci := 8) (q0 := 0) rfl rfl, (pw_use hP hK hN [0, 1] rfl [0] rfl)⟩ rfl rfl hl.1 rfl (lv_room (Nat.le_of_ble_eq_true rfl)) dX10_have_2 ⟨lel 0 0 rfl, lel 0 0 rfl⟩) (fun r_1 hr_1 => ?_)
  obtain rfl : r_1 = 0 := hr_1
  refine lv_if_eq (tgt := 12) hx hb dX10_have_5 (by decide) (fun _ => ?_) (fun c_2 => absurd c_2 (by decide))
  refine lv_bipush (v := (-2)) hx hb dX10_have_12 (by decide) ?_
  exact W.iret (v := (-2)) hx hb hr (fun t ht hW => ⟨(-2), rfl, rfl, ht⟩) t_nil dX10_have_14
theorem dX10_at_0 : decode cX10_at 0 = .ok (.aload_n 0, 1) := by decide +kernel
theorem dX10_at_1 : decode cX10_at 1 = .ok (.iload_n 1, 1) := by decide +kernel
theorem dX10_at_2 : decode cX10_at 2 = .ok (.invokevirtual 89, 3) := by decide +kernel
theorem dX10_at_5 : decode cX10_at 5 = .ok (.ifCond .eq 39, 3) := by decide +kernel
theorem dX10_at_44 : decode cX10_at 44 = .ok (.bipush (-2), 2) := by decide +kernel
theorem dX10_at_46 : decode cX10_at 46 = .ok (.ireturn, 1) := by decide +kernel
def uX10_at : List Cond := .code yX10_at cX10_at 4 (some .int) :: ([.methodLink RX10 89 yX10_isLaw, .instanceMethod yX10_isLaw, .selects RX10 yX10_isLaw yX10_isLaw, .initialized RX10, .code yX10_isLaw cX10_isLaw 2 (some .boolean), .fieldLink RX10 9 "LuckyTicketModel" "world" "[I", .methodLink RX10 82 yX10_in, .static yX10_in, .code yX10_in cX10_in 6 (some .boolean)] ++ wsX100)
theorem iX10_at_X10 : ∀ w ∈ wsX100, w ∈ uX10_at := fun _ h => List.mem_cons_of_mem _ (List.mem_append_right _ h)
set_option maxRecDepth 20000 in
theorem gX10_at__X10_isLaw_V89 : GoodIn uX10_at (wsV RX10 89 RX10 yX10_isLaw uX10_isLaw) := goodIn_p _ [5, 9] rfl (by decide +kernel)
set_option maxHeartbeats 4000000 in
set_option maxRecDepth 100000 in
theorem kX10_at (l : Launch) (dC : Nat → ClassId) (dI : Nat → Nat → Nat) (h0 : Nat) (m_world : Nat) (m_images : Nat) (m_hasImage : Nat) (m_luck : Nat) (m_tape : Nat) (m_five : Nat) (m_fresh : Nat) (m_waits : Nat) (m_figures : Nat) (m_pile : Nat) (m_times : Nat) (m_far : Nat) (m_queue : Nat) (m_months : Nat) (m_ways : Nat) (m_waysOn : Nat) (m_many : Nat) (m_width : Nat) (m_numbers : Nat) (m_moving : Nat) (cI : ClassId) (a1 : Int32) (a2 : Int32) (a3 : Int32) : Met l yX10_at uX10_at ({ frames := 2, cells := 0, slots := 0, locals := 46 }) (va_Pc [.ref h0, .int a1, .int a2, .int a3] (pw (dC, dI) vwCl [(h0, .inr (8, [.int 0, .ref m_world, .ref m_images, .ref m_hasImage, .ref m_luck, .ref m_tape, .int 0, .ref m_five, .int 0, .int 0, .int 0, .int 0, .int 0, .int 0, .int (-1), .ref m_fresh, .ref m_waits, .int 0, .int 0, .int 0, .ref m_figures, .ref m_pile, .long 0, .ref m_times, .ref m_far, .ref m_queue, .ref m_months, .ref m_ways, .ref m_waysOn, .ref m_many, .ref m_width, .ref m_numbers, .ref m_moving])), (m_world, .inl (cI, 1875, .inl (fun _ => 0)))] [(cI, .int)])) (vp_Si (fun r => r = (-2))) 0 0 (fun _ => False) := by
  refine Met.ofW (cc := cX10_at) (maxL := 4) (ret := (some .int)) (by decide) rfl ?_
  intro p e s m args below meth c s₁ B hml hv
  obtain ⟨rfl, hP, hK, hN⟩ := hv
  have hx := B.exec
  have hb := B.bytes
  have hr := B.returns
  have hts := atoms_spec (ws := uX10_at) B.pre
  have hown : s.vm.findClass RX10 = some m.cls := findClass_of_methodNamed B.named
  have hlocks := B.notSynchronized
  have hl := lv_entry ([.ref h0, .int a1, .int a2, .int a3]) (n := 4) (Nat.le_of_ble_eq_true rfl)
  rw [lg_entry_eq]
  generalize (lg_sl ([.ref h0, .int a1, .int a2, .int a3]) ++ List.replicate (4 - (lg_sl ([.ref h0, .int a1, .int a2, .int a3])).length) Slot.unset).toArray = ls at hl ⊢
  have hl : lv_has ls 4 [(0, .ref h0), (1, .int a1), (2, .int a2), (3, .int a3)] := hl
  refine lv_aload_n hx hb dX10_at_0 rfl (lv_at hl 0 rfl) ?_
  refine lv_iload_n hx hb dX10_at_1 rfl (lv_at hl 1 rfl) ?_
  refine vp_callSi (W.runV (As := [.int a1]) (rest := []) ⟨hx, hb, hml, hown, hts⟩ (kX10_isLaw l dC dI h0 m_world m_images m_hasImage m_luck m_tape m_five m_fresh m_waits m_figures m_pile m_times m_far m_queue m_months m_ways m_waysOn m_many m_width m_numbers m_moving cI a1) (cwV 1 hts gX10_at__X10_isLaw_V89 rfl rfl rfl (by decide +kernel) ⟨lel 2 2 rfl, lel 46 46 rfl⟩) ⟨pw_fb, va_recv hK hP (ci := 8) (q0 := 0) rfl rfl, (pw_use hP hK hN [0, 1] rfl [0] rfl)⟩ rfl rfl hl.1 rfl (lv_room (Nat.le_of_ble_eq_true rfl)) dX10_at_2 ⟨lel 0 0 rfl, lel 0 0 rfl⟩) (fun r_1 hr_1 => ?_)
  obtain rfl : r_1 = 0 := hr_1
  refine lv_if_eq (tgt := 44) hx hb dX10_at_5 (by decide) (fun _ => ?_) (fun c_2 => absurd c_2 (by decide))
  refine lv_bipush (v := (-2)) hx hb dX10_at_44 (by decide) ?_
  exact W.iret (v := (-2)) hx hb hr (fun t ht hW => ⟨(-2), rfl, rfl, ht⟩) t_nil dX10_at_46
theorem dX10_mostly_0 : decode cX10_mostly 0 = .ok (.aload_n 0, 1) := by decide +kernel
theorem dX10_mostly_1 : decode cX10_mostly 1 = .ok (.iload_n 1, 1) := by decide +kernel
theorem dX10_mostly_2 : decode cX10_mostly 2 = .ok (.invokevirtual 89, 3) := by decide +kernel
theorem dX10_mostly_5 : decode cX10_mostly 5 = .ok (.ifCond .eq 11, 3) := by decide +kernel
theorem dX10_mostly_16 : decode cX10_mostly 16 = .ok (.bipush (-2), 2) := by decide +kernel
theorem dX10_mostly_18 : decode cX10_mostly 18 = .ok (.ireturn, 1) := by decide +kernel
def uX10_mostly : List Cond := .code yX10_mostly cX10_mostly 7 (some .int) :: ([.methodLink RX10 89 yX10_isLaw, .instanceMethod yX10_isLaw, .selects RX10 yX10_isLaw yX10_isLaw, .initialized RX10, .code yX10_isLaw cX10_isLaw 2 (some .boolean), .fieldLink RX10 9 "LuckyTicketModel" "world" "[I", .methodLink RX10 82 yX10_in, .static yX10_in, .code yX10_in cX10_in 6 (some .boolean)] ++ wsX100)
theorem iX10_mostly_X10 : ∀ w ∈ wsX100, w ∈ uX10_mostly := fun _ h => List.mem_cons_of_mem _ (List.mem_append_right _ h)
set_option maxRecDepth 20000 in
theorem gX10_mostly__X10_isLaw_V89 : GoodIn uX10_mostly (wsV RX10 89 RX10 yX10_isLaw uX10_isLaw) := goodIn_p _ [5, 9] rfl (by decide +kernel)
set_option maxHeartbeats 4000000 in
set_option maxRecDepth 100000 in
theorem kX10_mostly (l : Launch) (dC : Nat → ClassId) (dI : Nat → Nat → Nat) (h0 : Nat) (m_world : Nat) (m_images : Nat) (m_hasImage : Nat) (m_luck : Nat) (m_tape : Nat) (m_five : Nat) (m_fresh : Nat) (m_waits : Nat) (m_figures : Nat) (m_pile : Nat) (m_times : Nat) (m_far : Nat) (m_queue : Nat) (m_months : Nat) (m_ways : Nat) (m_waysOn : Nat) (m_many : Nat) (m_width : Nat) (m_numbers : Nat) (m_moving : Nat) (cI : ClassId) (a1 : Int32) (a2 : Int32) : Met l yX10_mostly uX10_mostly ({ frames := 2, cells := 0, slots := 0, locals := 46 }) (va_Pc [.ref h0, .int a1, .int a2] (pw (dC, dI) vwCl [(h0, .inr (8, [.int 0, .ref m_world, .ref m_images, .ref m_hasImage, .ref m_luck, .ref m_tape, .int 0, .ref m_five, .int 0, .int 0, .int 0, .int 0, .int 0, .int 0, .int (-1), .ref m_fresh, .ref m_waits, .int 0, .int 0, .int 0, .ref m_figures, .ref m_pile, .long 0, .ref m_times, .ref m_far, .ref m_queue, .ref m_months, .ref m_ways, .ref m_waysOn, .ref m_many, .ref m_width, .ref m_numbers, .ref m_moving])), (m_world, .inl (cI, 1875, .inl (fun _ => 0)))] [(cI, .int)])) (vp_Si (fun r => r = (-2))) 0 0 (fun _ => False) := by
  refine Met.ofW (cc := cX10_mostly) (maxL := 7) (ret := (some .int)) (by decide) rfl ?_
  intro p e s m args below meth c s₁ B hml hv
  obtain ⟨rfl, hP, hK, hN⟩ := hv
  have hx := B.exec
  have hb := B.bytes
  have hr := B.returns
  have hts := atoms_spec (ws := uX10_mostly) B.pre
  have hown : s.vm.findClass RX10 = some m.cls := findClass_of_methodNamed B.named
  have hlocks := B.notSynchronized
  have hl := lv_entry ([.ref h0, .int a1, .int a2]) (n := 7) (Nat.le_of_ble_eq_true rfl)
  rw [lg_entry_eq]
  generalize (lg_sl ([.ref h0, .int a1, .int a2]) ++ List.replicate (7 - (lg_sl ([.ref h0, .int a1, .int a2])).length) Slot.unset).toArray = ls at hl ⊢
  have hl : lv_has ls 7 [(0, .ref h0), (1, .int a1), (2, .int a2)] := hl
  refine lv_aload_n hx hb dX10_mostly_0 rfl (lv_at hl 0 rfl) ?_
  refine lv_iload_n hx hb dX10_mostly_1 rfl (lv_at hl 1 rfl) ?_
  refine vp_callSi (W.runV (As := [.int a1]) (rest := []) ⟨hx, hb, hml, hown, hts⟩ (kX10_isLaw l dC dI h0 m_world m_images m_hasImage m_luck m_tape m_five m_fresh m_waits m_figures m_pile m_times m_far m_queue m_months m_ways m_waysOn m_many m_width m_numbers m_moving cI a1) (cwV 1 hts gX10_mostly__X10_isLaw_V89 rfl rfl rfl (by decide +kernel) ⟨lel 2 2 rfl, lel 46 46 rfl⟩) ⟨pw_fb, va_recv hK hP (ci := 8) (q0 := 0) rfl rfl, (pw_use hP hK hN [0, 1] rfl [0] rfl)⟩ rfl rfl hl.1 rfl (lv_room (Nat.le_of_ble_eq_true rfl)) dX10_mostly_2 ⟨lel 0 0 rfl, lel 0 0 rfl⟩) (fun r_1 hr_1 => ?_)
  obtain rfl : r_1 = 0 := hr_1
  refine lv_if_eq (tgt := 16) hx hb dX10_mostly_5 (by decide) (fun _ => ?_) (fun c_2 => absurd c_2 (by decide))
  refine lv_bipush (v := (-2)) hx hb dX10_mostly_16 (by decide) ?_
  exact W.iret (v := (-2)) hx hb hr (fun t ht hW => ⟨(-2), rfl, rfl, ht⟩) t_nil dX10_mostly_18
theorem dX10_same_0 : decode cX10_same 0 = .ok (.aload_n 0, 1) := by decide +kernel
theorem dX10_same_1 : decode cX10_same 1 = .ok (.iload_n 1, 1) := by decide +kernel
theorem dX10_same_2 : decode cX10_same 2 = .ok (.iload_n 2, 1) := by decide +kernel
theorem dX10_same_3 : decode cX10_same 3 = .ok (.invokevirtual 313, 3) := by decide +kernel
theorem dX10_same_6 : decode cX10_same 6 = .ok (.ifCond .eq 15, 3) := by decide +kernel
theorem dX10_same_21 : decode cX10_same 21 = .ok (.bipush (-2), 2) := by decide +kernel
theorem dX10_same_23 : decode cX10_same 23 = .ok (.ireturn, 1) := by decide +kernel
def uX10_same : List Cond := .code yX10_same cX10_same 8 (some .int) :: ([.methodLink RX10 313 yX10_isBoth, .instanceMethod yX10_isBoth, .selects RX10 yX10_isBoth yX10_isBoth, .initialized RX10, .code yX10_isBoth cX10_isBoth 3 (some .boolean), .methodLink RX10 89 yX10_isLaw, .instanceMethod yX10_isLaw, .selects RX10 yX10_isLaw yX10_isLaw, .code yX10_isLaw cX10_isLaw 2 (some .boolean), .fieldLink RX10 9 "LuckyTicketModel" "world" "[I", .methodLink RX10 82 yX10_in, .static yX10_in, .code yX10_in cX10_in 6 (some .boolean)] ++ wsX100)
theorem iX10_same_X10 : ∀ w ∈ wsX100, w ∈ uX10_same := fun _ h => List.mem_cons_of_mem _ (List.mem_append_right _ h)
set_option maxRecDepth 20000 in
theorem gX10_same__X10_isBoth_V313 : GoodIn uX10_same (wsV RX10 313 RX10 yX10_isBoth uX10_isBoth) := goodIn_p _ [5, 9, 13] rfl (by decide +kernel)
set_option maxHeartbeats 4000000 in
set_option maxRecDepth 100000 in
theorem kX10_same (l : Launch) (dC : Nat → ClassId) (dI : Nat → Nat → Nat) (h0 : Nat) (m_world : Nat) (m_images : Nat) (m_hasImage : Nat) (m_luck : Nat) (m_tape : Nat) (m_five : Nat) (m_fresh : Nat) (m_waits : Nat) (m_figures : Nat) (m_pile : Nat) (m_times : Nat) (m_far : Nat) (m_queue : Nat) (m_months : Nat) (m_ways : Nat) (m_waysOn : Nat) (m_many : Nat) (m_width : Nat) (m_numbers : Nat) (m_moving : Nat) (cI : ClassId) (a1 : Int32) (a2 : Int32) (a3 : Int32) : Met l yX10_same uX10_same ({ frames := 3, cells := 0, slots := 0, locals := 68 }) (va_Pc [.ref h0, .int a1, .int a2, .int a3] (pw (dC, dI) vwCl [(h0, .inr (8, [.int 0, .ref m_world, .ref m_images, .ref m_hasImage, .ref m_luck, .ref m_tape, .int 0, .ref m_five, .int 0, .int 0, .int 0, .int 0, .int 0, .int 0, .int (-1), .ref m_fresh, .ref m_waits, .int 0, .int 0, .int 0, .ref m_figures, .ref m_pile, .long 0, .ref m_times, .ref m_far, .ref m_queue, .ref m_months, .ref m_ways, .ref m_waysOn, .ref m_many, .ref m_width, .ref m_numbers, .ref m_moving])), (m_world, .inl (cI, 1875, .inl (fun _ => 0)))] [(cI, .int)])) (vp_Si (fun r => r = (-2))) 0 0 (fun _ => False) := by
  refine Met.ofW (cc := cX10_same) (maxL := 8) (ret := (some .int)) (by decide) rfl ?_
  intro p e s m args below meth c s₁ B hml hv
  obtain ⟨rfl, hP, hK, hN⟩ := hv
  have hx := B.exec
  have hb := B.bytes
  have hr := B.returns
  have hts := atoms_spec (ws := uX10_same) B.pre
  have hown : s.vm.findClass RX10 = some m.cls := findClass_of_methodNamed B.named
  have hlocks := B.notSynchronized
  have hl := lv_entry ([.ref h0, .int a1, .int a2, .int a3]) (n := 8) (Nat.le_of_ble_eq_true rfl)
  rw [lg_entry_eq]
  generalize (lg_sl ([.ref h0, .int a1, .int a2, .int a3]) ++ List.replicate (8 - (lg_sl ([.ref h0, .int a1, .int a2, .int a3])).length) Slot.unset).toArray = ls at hl ⊢
  have hl : lv_has ls 8 [(0, .ref h0), (1, .int a1), (2, .int a2), (3, .int a3)] := hl
  refine lv_aload_n hx hb dX10_same_0 rfl (lv_at hl 0 rfl) ?_
  refine lv_iload_n hx hb dX10_same_1 rfl (lv_at hl 1 rfl) ?_
  refine lv_iload_n hx hb dX10_same_2 rfl (lv_at hl 2 rfl) ?_
  refine vp_callSi (W.runV (As := [.int a1, .int a2]) (rest := []) ⟨hx, hb, hml, hown, hts⟩ (kX10_isBoth l dC dI h0 m_world m_images m_hasImage m_luck m_tape m_five m_fresh m_waits m_figures m_pile m_times m_far m_queue m_months m_ways m_waysOn m_many m_width m_numbers m_moving cI a1 a2) (cwV 2 hts gX10_same__X10_isBoth_V313 rfl rfl rfl (by decide +kernel) ⟨lel 3 3 rfl, lel 68 68 rfl⟩) ⟨pw_fb, va_recv hK hP (ci := 8) (q0 := 0) rfl rfl, (pw_use hP hK hN [0, 1] rfl [0] rfl)⟩ rfl rfl hl.1 rfl (lv_room (Nat.le_of_ble_eq_true rfl)) dX10_same_3 ⟨lel 0 0 rfl, lel 0 0 rfl⟩) (fun r_1 hr_1 => ?_)
  obtain rfl : r_1 = 0 := hr_1
  refine lv_if_eq (tgt := 21) hx hb dX10_same_6 (by decide) (fun _ => ?_) (fun c_2 => absurd c_2 (by decide))
  refine lv_bipush (v := (-2)) hx hb dX10_same_21 (by decide) ?_
  exact W.iret (v := (-2)) hx hb hr (fun t ht hW => ⟨(-2), rfl, rfl, ht⟩) t_nil dX10_same_23
theorem dX10_walk_0 : decode cX10_walk 0 = .ok (.aload_n 0, 1) := by decide +kernel
theorem dX10_walk_1 : decode cX10_walk 1 = .ok (.iload_n 1, 1) := by decide +kernel
theorem dX10_walk_2 : decode cX10_walk 2 = .ok (.iload_n 2, 1) := by decide +kernel
theorem dX10_walk_3 : decode cX10_walk 3 = .ok (.invokevirtual 313, 3) := by decide +kernel
theorem dX10_walk_6 : decode cX10_walk 6 = .ok (.ifCond .eq 12, 3) := by decide +kernel
theorem dX10_walk_18 : decode cX10_walk 18 = .ok (.bipush (-2), 2) := by decide +kernel
theorem dX10_walk_20 : decode cX10_walk 20 = .ok (.ireturn, 1) := by decide +kernel
def uX10_walk : List Cond := .code yX10_walk cX10_walk 4 (some .int) :: ([.methodLink RX10 313 yX10_isBoth, .instanceMethod yX10_isBoth, .selects RX10 yX10_isBoth yX10_isBoth, .initialized RX10, .code yX10_isBoth cX10_isBoth 3 (some .boolean), .methodLink RX10 89 yX10_isLaw, .instanceMethod yX10_isLaw, .selects RX10 yX10_isLaw yX10_isLaw, .code yX10_isLaw cX10_isLaw 2 (some .boolean), .fieldLink RX10 9 "LuckyTicketModel" "world" "[I", .methodLink RX10 82 yX10_in, .static yX10_in, .code yX10_in cX10_in 6 (some .boolean)] ++ wsX100)
theorem iX10_walk_X10 : ∀ w ∈ wsX100, w ∈ uX10_walk := fun _ h => List.mem_cons_of_mem _ (List.mem_append_right _ h)
set_option maxRecDepth 20000 in
theorem gX10_walk__X10_isBoth_V313 : GoodIn uX10_walk (wsV RX10 313 RX10 yX10_isBoth uX10_isBoth) := goodIn_p _ [5, 9, 13] rfl (by decide +kernel)
set_option maxHeartbeats 4000000 in
set_option maxRecDepth 100000 in
theorem kX10_walk (l : Launch) (dC : Nat → ClassId) (dI : Nat → Nat → Nat) (h0 : Nat) (m_world : Nat) (m_images : Nat) (m_hasImage : Nat) (m_luck : Nat) (m_tape : Nat) (m_five : Nat) (m_fresh : Nat) (m_waits : Nat) (m_figures : Nat) (m_pile : Nat) (m_times : Nat) (m_far : Nat) (m_queue : Nat) (m_months : Nat) (m_ways : Nat) (m_waysOn : Nat) (m_many : Nat) (m_width : Nat) (m_numbers : Nat) (m_moving : Nat) (cI : ClassId) (a1 : Int32) (a2 : Int32) (a3 : Int32) : Met l yX10_walk uX10_walk ({ frames := 3, cells := 0, slots := 0, locals := 68 }) (va_Pc [.ref h0, .int a1, .int a2, .int a3] (pw (dC, dI) vwCl [(h0, .inr (8, [.int 0, .ref m_world, .ref m_images, .ref m_hasImage, .ref m_luck, .ref m_tape, .int 0, .ref m_five, .int 0, .int 0, .int 0, .int 0, .int 0, .int 0, .int (-1), .ref m_fresh, .ref m_waits, .int 0, .int 0, .int 0, .ref m_figures, .ref m_pile, .long 0, .ref m_times, .ref m_far, .ref m_queue, .ref m_months, .ref m_ways, .ref m_waysOn, .ref m_many, .ref m_width, .ref m_numbers, .ref m_moving])), (m_world, .inl (cI, 1875, .inl (fun _ => 0)))] [(cI, .int)])) (vp_Si (fun r => r = (-2))) 0 0 (fun _ => False) := by
  refine Met.ofW (cc := cX10_walk) (maxL := 4) (ret := (some .int)) (by decide) rfl ?_
  intro p e s m args below meth c s₁ B hml hv
  obtain ⟨rfl, hP, hK, hN⟩ := hv
  have hx := B.exec
  have hb := B.bytes
  have hr := B.returns
  have hts := atoms_spec (ws := uX10_walk) B.pre
  have hown : s.vm.findClass RX10 = some m.cls := findClass_of_methodNamed B.named
  have hlocks := B.notSynchronized
  have hl := lv_entry ([.ref h0, .int a1, .int a2, .int a3]) (n := 4) (Nat.le_of_ble_eq_true rfl)
  rw [lg_entry_eq]
  generalize (lg_sl ([.ref h0, .int a1, .int a2, .int a3]) ++ List.replicate (4 - (lg_sl ([.ref h0, .int a1, .int a2, .int a3])).length) Slot.unset).toArray = ls at hl ⊢
  have hl : lv_has ls 4 [(0, .ref h0), (1, .int a1), (2, .int a2), (3, .int a3)] := hl
  refine lv_aload_n hx hb dX10_walk_0 rfl (lv_at hl 0 rfl) ?_
  refine lv_iload_n hx hb dX10_walk_1 rfl (lv_at hl 1 rfl) ?_
  refine lv_iload_n hx hb dX10_walk_2 rfl (lv_at hl 2 rfl) ?_
  refine vp_callSi (W.runV (As := [.int a1, .int a2]) (rest := []) ⟨hx, hb, hml, hown, hts⟩ (kX10_isBoth l dC dI h0 m_world m_images m_hasImage m_luck m_tape m_five m_fresh m_waits m_figures m_pile m_times m_far m_queue m_months m_ways m_waysOn m_many m_width m_numbers m_moving cI a1 a2) (cwV 2 hts gX10_walk__X10_isBoth_V313 rfl rfl rfl (by decide +kernel) ⟨lel 3 3 rfl, lel 68 68 rfl⟩) ⟨pw_fb, va_recv hK hP (ci := 8) (q0 := 0) rfl rfl, (pw_use hP hK hN [0, 1] rfl [0] rfl)⟩ rfl rfl hl.1 rfl (lv_room (Nat.le_of_ble_eq_true rfl)) dX10_walk_3 ⟨lel 0 0 rfl, lel 0 0 rfl⟩) (fun r_1 hr_1 => ?_)
  obtain rfl : r_1 = 0 := hr_1
  refine lv_if_eq (tgt := 18) hx hb dX10_walk_6 (by decide) (fun _ => ?_) (fun c_2 => absurd c_2 (by decide))
  refine lv_bipush (v := (-2)) hx hb dX10_walk_18 (by decide) ?_
  exact W.iret (v := (-2)) hx hb hr (fun t ht hW => ⟨(-2), rfl, rfl, ht⟩) t_nil dX10_walk_20
theorem dX10_islands_0 : decode cX10_islands 0 = .ok (.aload_n 0, 1) := by decide +kernel
theorem dX10_islands_1 : decode cX10_islands 1 = .ok (.iload_n 1, 1) := by decide +kernel
theorem dX10_islands_2 : decode cX10_islands 2 = .ok (.invokevirtual 89, 3) := by decide +kernel
theorem dX10_islands_5 : decode cX10_islands 5 = .ok (.ifCond .eq 15, 3) := by decide +kernel
theorem dX10_islands_20 : decode cX10_islands 20 = .ok (.bipush (-2), 2) := by decide +kernel
theorem dX10_islands_22 : decode cX10_islands 22 = .ok (.ireturn, 1) := by decide +kernel
def uX10_islands : List Cond := .code yX10_islands cX10_islands 8 (some .int) :: ([.methodLink RX10 89 yX10_isLaw, .instanceMethod yX10_isLaw, .selects RX10 yX10_isLaw yX10_isLaw, .initialized RX10, .code yX10_isLaw cX10_isLaw 2 (some .boolean), .fieldLink RX10 9 "LuckyTicketModel" "world" "[I", .methodLink RX10 82 yX10_in, .static yX10_in, .code yX10_in cX10_in 6 (some .boolean)] ++ wsX100)
theorem iX10_islands_X10 : ∀ w ∈ wsX100, w ∈ uX10_islands := fun _ h => List.mem_cons_of_mem _ (List.mem_append_right _ h)
set_option maxRecDepth 20000 in
theorem gX10_islands__X10_isLaw_V89 : GoodIn uX10_islands (wsV RX10 89 RX10 yX10_isLaw uX10_isLaw) := goodIn_p _ [5, 9] rfl (by decide +kernel)
set_option maxHeartbeats 4000000 in
set_option maxRecDepth 100000 in
theorem kX10_islands (l : Launch) (dC : Nat → ClassId) (dI : Nat → Nat → Nat) (h0 : Nat) (m_world : Nat) (m_images : Nat) (m_hasImage : Nat) (m_luck : Nat) (m_tape : Nat) (m_five : Nat) (m_fresh : Nat) (m_waits : Nat) (m_figures : Nat) (m_pile : Nat) (m_times : Nat) (m_far : Nat) (m_queue : Nat) (m_months : Nat) (m_ways : Nat) (m_waysOn : Nat) (m_many : Nat) (m_width : Nat) (m_numbers : Nat) (m_moving : Nat) (cI : ClassId) (a1 : Int32) (a2 : Int32) : Met l yX10_islands uX10_islands ({ frames := 2, cells := 0, slots := 0, locals := 46 }) (va_Pc [.ref h0, .int a1, .int a2] (pw (dC, dI) vwCl [(h0, .inr (8, [.int 0, .ref m_world, .ref m_images, .ref m_hasImage, .ref m_luck, .ref m_tape, .int 0, .ref m_five, .int 0, .int 0, .int 0, .int 0, .int 0, .int 0, .int (-1), .ref m_fresh, .ref m_waits, .int 0, .int 0, .int 0, .ref m_figures, .ref m_pile, .long 0, .ref m_times, .ref m_far, .ref m_queue, .ref m_months, .ref m_ways, .ref m_waysOn, .ref m_many, .ref m_width, .ref m_numbers, .ref m_moving])), (m_world, .inl (cI, 1875, .inl (fun _ => 0)))] [(cI, .int)])) (vp_Si (fun r => r = (-2))) 0 0 (fun _ => False) := by
  refine Met.ofW (cc := cX10_islands) (maxL := 8) (ret := (some .int)) (by decide) rfl ?_
  intro p e s m args below meth c s₁ B hml hv
  obtain ⟨rfl, hP, hK, hN⟩ := hv
  have hx := B.exec
  have hb := B.bytes
  have hr := B.returns
  have hts := atoms_spec (ws := uX10_islands) B.pre
  have hown : s.vm.findClass RX10 = some m.cls := findClass_of_methodNamed B.named
  have hlocks := B.notSynchronized
  have hl := lv_entry ([.ref h0, .int a1, .int a2]) (n := 8) (Nat.le_of_ble_eq_true rfl)
  rw [lg_entry_eq]
  generalize (lg_sl ([.ref h0, .int a1, .int a2]) ++ List.replicate (8 - (lg_sl ([.ref h0, .int a1, .int a2])).length) Slot.unset).toArray = ls at hl ⊢
  have hl : lv_has ls 8 [(0, .ref h0), (1, .int a1), (2, .int a2)] := hl
  refine lv_aload_n hx hb dX10_islands_0 rfl (lv_at hl 0 rfl) ?_
  refine lv_iload_n hx hb dX10_islands_1 rfl (lv_at hl 1 rfl) ?_
  refine vp_callSi (W.runV (As := [.int a1]) (rest := []) ⟨hx, hb, hml, hown, hts⟩ (kX10_isLaw l dC dI h0 m_world m_images m_hasImage m_luck m_tape m_five m_fresh m_waits m_figures m_pile m_times m_far m_queue m_months m_ways m_waysOn m_many m_width m_numbers m_moving cI a1) (cwV 1 hts gX10_islands__X10_isLaw_V89 rfl rfl rfl (by decide +kernel) ⟨lel 2 2 rfl, lel 46 46 rfl⟩) ⟨pw_fb, va_recv hK hP (ci := 8) (q0 := 0) rfl rfl, (pw_use hP hK hN [0, 1] rfl [0] rfl)⟩ rfl rfl hl.1 rfl (lv_room (Nat.le_of_ble_eq_true rfl)) dX10_islands_2 ⟨lel 0 0 rfl, lel 0 0 rfl⟩) (fun r_1 hr_1 => ?_)
  obtain rfl : r_1 = 0 := hr_1
  refine lv_if_eq (tgt := 20) hx hb dX10_islands_5 (by decide) (fun _ => ?_) (fun c_2 => absurd c_2 (by decide))
  refine lv_bipush (v := (-2)) hx hb dX10_islands_20 (by decide) ?_
  exact W.iret (v := (-2)) hx hb hr (fun t ht hW => ⟨(-2), rfl, rfl, ht⟩) t_nil dX10_islands_22
theorem dX10_worn_0 : decode cX10_worn 0 = .ok (.aload_n 0, 1) := by decide +kernel
theorem dX10_worn_1 : decode cX10_worn 1 = .ok (.iload_n 1, 1) := by decide +kernel
theorem dX10_worn_2 : decode cX10_worn 2 = .ok (.aload_n 0, 1) := by decide +kernel
theorem dX10_worn_3 : decode cX10_worn 3 = .ok (.iload_n 2, 1) := by decide +kernel
theorem dX10_worn_4 : decode cX10_worn 4 = .ok (.invokevirtual 89, 3) := by decide +kernel
theorem dX10_worn_7 : decode cX10_worn 7 = .ok (.ifCond .eq 19, 3) := by decide +kernel
theorem dX10_worn_26 : decode cX10_worn 26 = .ok (.iconst 0, 1) := by decide +kernel
theorem dX10_worn_27 : decode cX10_worn 27 = .ok (.invokevirtual 377, 3) := by decide +kernel
theorem dX10_worn_30 : decode cX10_worn 30 = .ok (.istore 4, 2) := by decide +kernel
theorem dX10_worn_32 : decode cX10_worn 32 = .ok (.iload 4, 2) := by decide +kernel
theorem dX10_worn_34 : decode cX10_worn 34 = .ok (.ifCond .ge 6, 3) := by decide +kernel
theorem dX10_worn_37 : decode cX10_worn 37 = .ok (.iload 4, 2) := by decide +kernel
theorem dX10_worn_39 : decode cX10_worn 39 = .ok (.ireturn, 1) := by decide +kernel
def uX10_worn : List Cond := .code yX10_worn cX10_worn 10 (some .int) :: ([.methodLink RX10 89 yX10_isLaw, .instanceMethod yX10_isLaw, .selects RX10 yX10_isLaw yX10_isLaw, .initialized RX10, .code yX10_isLaw cX10_isLaw 2 (some .boolean), .fieldLink RX10 9 "LuckyTicketModel" "world" "[I", .methodLink RX10 82 yX10_in, .static yX10_in, .code yX10_in cX10_in 6 (some .boolean), .methodLink RX10 377 yX10_asksWorn, .instanceMethod yX10_asksWorn, .selects RX10 yX10_asksWorn yX10_asksWorn, .code yX10_asksWorn cX10_asksWorn 3 (some .int), .methodLink RX10 369 yX10_isSlot, .static yX10_isSlot, .code yX10_isSlot cX10_isSlot 1 (some .boolean), .constantLong RX10 375 (3)] ++ wsX100)
theorem iX10_worn_X10 : ∀ w ∈ wsX100, w ∈ uX10_worn := fun _ h => List.mem_cons_of_mem _ (List.mem_append_right _ h)
set_option maxRecDepth 20000 in
theorem gX10_worn__X10_isLaw_V89 : GoodIn uX10_worn (wsV RX10 89 RX10 yX10_isLaw uX10_isLaw) := goodIn_p _ [5, 9] rfl (by decide +kernel)
set_option maxRecDepth 20000 in
theorem gX10_worn__X10_asksWorn_V377 : GoodIn uX10_worn (wsV RX10 377 RX10 yX10_asksWorn uX10_asksWorn) := goodIn_p _ [13, 16, 9] rfl (by decide +kernel)
set_option maxHeartbeats 4000000 in
set_option maxRecDepth 100000 in
theorem kX10_worn (l : Launch) (dC : Nat → ClassId) (dI : Nat → Nat → Nat) (h0 : Nat) (m_world : Nat) (m_images : Nat) (m_hasImage : Nat) (m_luck : Nat) (m_tape : Nat) (m_five : Nat) (m_fresh : Nat) (m_waits : Nat) (m_figures : Nat) (m_pile : Nat) (m_times : Nat) (m_far : Nat) (m_queue : Nat) (m_months : Nat) (m_ways : Nat) (m_waysOn : Nat) (m_many : Nat) (m_width : Nat) (m_numbers : Nat) (m_moving : Nat) (cI : ClassId) (a1 : Int32) (a2 : Int32) (a3 : Int32) : Met l yX10_worn uX10_worn ({ frames := 3, cells := 0, slots := 0, locals := 67 }) (va_Pc [.ref h0, .int a1, .int a2, .int a3] (pw (dC, dI) vwCl [(h0, .inr (8, [.int 0, .ref m_world, .ref m_images, .ref m_hasImage, .ref m_luck, .ref m_tape, .int 0, .ref m_five, .int 0, .int 0, .int 0, .int 0, .int 0, .int 0, .int (-1), .ref m_fresh, .ref m_waits, .int 0, .int 0, .int 0, .ref m_figures, .ref m_pile, .long 0, .ref m_times, .ref m_far, .ref m_queue, .ref m_months, .ref m_ways, .ref m_waysOn, .ref m_many, .ref m_width, .ref m_numbers, .ref m_moving])), (m_world, .inl (cI, 1875, .inl (fun _ => 0)))] [(cI, .int)])) (vp_Si (fun r => r = (-2))) 0 0 (fun _ => False) := by
  refine Met.ofW (cc := cX10_worn) (maxL := 10) (ret := (some .int)) (by decide) rfl ?_
  intro p e s m args below meth c s₁ B hml hv
  obtain ⟨rfl, hP, hK, hN⟩ := hv
  have hx := B.exec
  have hb := B.bytes
  have hr := B.returns
  have hts := atoms_spec (ws := uX10_worn) B.pre
  have hown : s.vm.findClass RX10 = some m.cls := findClass_of_methodNamed B.named
  have hlocks := B.notSynchronized
  have hl := lv_entry ([.ref h0, .int a1, .int a2, .int a3]) (n := 10) (Nat.le_of_ble_eq_true rfl)
  rw [lg_entry_eq]
  generalize (lg_sl ([.ref h0, .int a1, .int a2, .int a3]) ++ List.replicate (10 - (lg_sl ([.ref h0, .int a1, .int a2, .int a3])).length) Slot.unset).toArray = ls at hl ⊢
  have hl : lv_has ls 10 [(0, .ref h0), (1, .int a1), (2, .int a2), (3, .int a3)] := hl
  refine lv_aload_n hx hb dX10_worn_0 rfl (lv_at hl 0 rfl) ?_
  refine lv_iload_n hx hb dX10_worn_1 rfl (lv_at hl 1 rfl) ?_
  refine lv_aload_n hx hb dX10_worn_2 rfl (lv_at hl 0 rfl) ?_
  refine lv_iload_n hx hb dX10_worn_3 rfl (lv_at hl 2 rfl) ?_
  refine vp_callSi (W.runV (As := [.int a2]) (rest := [.int a1, .ref h0]) ⟨hx, hb, hml, hown, hts⟩ (kX10_isLaw l dC dI h0 m_world m_images m_hasImage m_luck m_tape m_five m_fresh m_waits m_figures m_pile m_times m_far m_queue m_months m_ways m_waysOn m_many m_width m_numbers m_moving cI a2) (cwV 1 hts gX10_worn__X10_isLaw_V89 rfl rfl rfl (by decide +kernel) ⟨lel 2 3 rfl, lel 46 67 rfl⟩) ⟨pw_fb, va_recv hK hP (ci := 8) (q0 := 0) rfl rfl, (pw_use hP hK hN [0, 1] rfl [0] rfl)⟩ rfl rfl hl.1 rfl (lv_room (Nat.le_of_ble_eq_true rfl)) dX10_worn_4 ⟨lel 0 0 rfl, lel 0 0 rfl⟩) (fun r_1 hr_1 => ?_)
  obtain rfl : r_1 = 0 := hr_1
  refine lv_if_eq (tgt := 26) hx hb dX10_worn_7 (by decide) (fun _ => ?_) (fun c_2 => absurd c_2 (by decide))
  refine lv_iconst (v := 0) hx hb dX10_worn_26 (by decide) ?_
  refine vp_callSi (W.runV (As := [.int a1, .int 0]) (rest := []) ⟨hx, hb, hml, hown, hts⟩ (kX10_asksWorn l dC dI h0 m_world m_images m_hasImage m_luck m_tape m_five m_fresh m_waits m_figures m_pile m_times m_far m_queue m_months m_ways m_waysOn m_many m_width m_numbers m_moving cI a1) (cwV 2 hts gX10_worn__X10_asksWorn_V377 rfl rfl rfl (by decide +kernel) ⟨lel 3 3 rfl, lel 67 67 rfl⟩) ⟨pw_fb, va_recv hK hP (ci := 8) (q0 := 0) rfl rfl, (pw_use hP hK hN [0, 1] rfl [0] rfl)⟩ rfl rfl hl.1 rfl (lv_room (Nat.le_of_ble_eq_true rfl)) dX10_worn_27 ⟨lel 0 0 rfl, lel 0 0 rfl⟩) (fun r_3 hr_3 => ?_)
  obtain rfl : r_3 = (-2) := hr_3
  refine lv_istore (lv' := [(4, .int (-2)), (0, .ref h0), (1, .int a1), (2, .int a2), (3, .int a3)]) hx hb dX10_worn_30 hl (by decide) rfl (fun ls hl => ?_)
  refine lv_iload hx hb dX10_worn_32 (lv_at hl 0 rfl) ?_
  refine lv_if_ge (tgt := 40) hx hb dX10_worn_34 (by decide) (fun c_4 => absurd c_4 (by decide)) (fun _ => ?_)
  refine lv_iload hx hb dX10_worn_37 (lv_at hl 0 rfl) ?_
  exact W.iret (v := (-2)) hx hb hr (fun t ht hW => ⟨(-2), rfl, rfl, ht⟩) t_nil dX10_worn_39
theorem dX10_likely_0 : decode cX10_likely 0 = .ok (.aload_n 0, 1) := by decide +kernel
theorem dX10_likely_1 : decode cX10_likely 1 = .ok (.iload_n 1, 1) := by decide +kernel
theorem dX10_likely_2 : decode cX10_likely 2 = .ok (.aload_n 0, 1) := by decide +kernel
theorem dX10_likely_3 : decode cX10_likely 3 = .ok (.iload_n 2, 1) := by decide +kernel
theorem dX10_likely_4 : decode cX10_likely 4 = .ok (.invokevirtual 89, 3) := by decide +kernel
theorem dX10_likely_7 : decode cX10_likely 7 = .ok (.ifCond .eq 34, 3) := by decide +kernel
theorem dX10_likely_41 : decode cX10_likely 41 = .ok (.iconst 0, 1) := by decide +kernel
theorem dX10_likely_42 : decode cX10_likely 42 = .ok (.invokevirtual 377, 3) := by decide +kernel
theorem dX10_likely_45 : decode cX10_likely 45 = .ok (.istore 5, 2) := by decide +kernel
theorem dX10_likely_47 : decode cX10_likely 47 = .ok (.iload 5, 2) := by decide +kernel
theorem dX10_likely_49 : decode cX10_likely 49 = .ok (.ifCond .ge 6, 3) := by decide +kernel
theorem dX10_likely_52 : decode cX10_likely 52 = .ok (.iload 5, 2) := by decide +kernel
theorem dX10_likely_54 : decode cX10_likely 54 = .ok (.ireturn, 1) := by decide +kernel
def uX10_likely : List Cond := .code yX10_likely cX10_likely 8 (some .int) :: ([.methodLink RX10 89 yX10_isLaw, .instanceMethod yX10_isLaw, .selects RX10 yX10_isLaw yX10_isLaw, .initialized RX10, .code yX10_isLaw cX10_isLaw 2 (some .boolean), .fieldLink RX10 9 "LuckyTicketModel" "world" "[I", .methodLink RX10 82 yX10_in, .static yX10_in, .code yX10_in cX10_in 6 (some .boolean), .methodLink RX10 377 yX10_asksWorn, .instanceMethod yX10_asksWorn, .selects RX10 yX10_asksWorn yX10_asksWorn, .code yX10_asksWorn cX10_asksWorn 3 (some .int), .methodLink RX10 369 yX10_isSlot, .static yX10_isSlot, .code yX10_isSlot cX10_isSlot 1 (some .boolean), .constantLong RX10 375 (3)] ++ wsX100)
theorem iX10_likely_X10 : ∀ w ∈ wsX100, w ∈ uX10_likely := fun _ h => List.mem_cons_of_mem _ (List.mem_append_right _ h)
set_option maxRecDepth 20000 in
theorem gX10_likely__X10_isLaw_V89 : GoodIn uX10_likely (wsV RX10 89 RX10 yX10_isLaw uX10_isLaw) := goodIn_p _ [5, 9] rfl (by decide +kernel)
set_option maxRecDepth 20000 in
theorem gX10_likely__X10_asksWorn_V377 : GoodIn uX10_likely (wsV RX10 377 RX10 yX10_asksWorn uX10_asksWorn) := goodIn_p _ [13, 16, 9] rfl (by decide +kernel)
set_option maxHeartbeats 4000000 in
set_option maxRecDepth 100000 in
theorem kX10_likely (l : Launch) (dC : Nat → ClassId) (dI : Nat → Nat → Nat) (h0 : Nat) (m_world : Nat) (m_images : Nat) (m_hasImage : Nat) (m_luck : Nat) (m_tape : Nat) (m_five : Nat) (m_fresh : Nat) (m_waits : Nat) (m_figures : Nat) (m_pile : Nat) (m_times : Nat) (m_far : Nat) (m_queue : Nat) (m_months : Nat) (m_ways : Nat) (m_waysOn : Nat) (m_many : Nat) (m_width : Nat) (m_numbers : Nat) (m_moving : Nat) (cI : ClassId) (a1 : Int32) (a2 : Int32) (a3 : Int32) (a4 : Int32) : Met l yX10_likely uX10_likely ({ frames := 3, cells := 0, slots := 0, locals := 67 }) (va_Pc [.ref h0, .int a1, .int a2, .int a3, .int a4] (pw (dC, dI) vwCl [(h0, .inr (8, [.int 0, .ref m_world, .ref m_images, .ref m_hasImage, .ref m_luck, .ref m_tape, .int 0, .ref m_five, .int 0, .int 0, .int 0, .int 0, .int 0, .int 0, .int (-1), .ref m_fresh, .ref m_waits, .int 0, .int 0, .int 0, .ref m_figures, .ref m_pile, .long 0, .ref m_times, .ref m_far, .ref m_queue, .ref m_months, .ref m_ways, .ref m_waysOn, .ref m_many, .ref m_width, .ref m_numbers, .ref m_moving])), (m_world, .inl (cI, 1875, .inl (fun _ => 0)))] [(cI, .int)])) (vp_Si (fun r => r = (-2))) 0 0 (fun _ => False) := by
  refine Met.ofW (cc := cX10_likely) (maxL := 8) (ret := (some .int)) (by decide) rfl ?_
  intro p e s m args below meth c s₁ B hml hv
  obtain ⟨rfl, hP, hK, hN⟩ := hv
  have hx := B.exec
  have hb := B.bytes
  have hr := B.returns
  have hts := atoms_spec (ws := uX10_likely) B.pre
  have hown : s.vm.findClass RX10 = some m.cls := findClass_of_methodNamed B.named
  have hlocks := B.notSynchronized
  have hl := lv_entry ([.ref h0, .int a1, .int a2, .int a3, .int a4]) (n := 8) (Nat.le_of_ble_eq_true rfl)
  rw [lg_entry_eq]
  generalize (lg_sl ([.ref h0, .int a1, .int a2, .int a3, .int a4]) ++ List.replicate (8 - (lg_sl ([.ref h0, .int a1, .int a2, .int a3, .int a4])).length) Slot.unset).toArray = ls at hl ⊢
  have hl : lv_has ls 8 [(0, .ref h0), (1, .int a1), (2, .int a2), (3, .int a3), (4, .int a4)] := hl
  refine lv_aload_n hx hb dX10_likely_0 rfl (lv_at hl 0 rfl) ?_
  refine lv_iload_n hx hb dX10_likely_1 rfl (lv_at hl 1 rfl) ?_
  refine lv_aload_n hx hb dX10_likely_2 rfl (lv_at hl 0 rfl) ?_
  refine lv_iload_n hx hb dX10_likely_3 rfl (lv_at hl 2 rfl) ?_
  refine vp_callSi (W.runV (As := [.int a2]) (rest := [.int a1, .ref h0]) ⟨hx, hb, hml, hown, hts⟩ (kX10_isLaw l dC dI h0 m_world m_images m_hasImage m_luck m_tape m_five m_fresh m_waits m_figures m_pile m_times m_far m_queue m_months m_ways m_waysOn m_many m_width m_numbers m_moving cI a2) (cwV 1 hts gX10_likely__X10_isLaw_V89 rfl rfl rfl (by decide +kernel) ⟨lel 2 3 rfl, lel 46 67 rfl⟩) ⟨pw_fb, va_recv hK hP (ci := 8) (q0 := 0) rfl rfl, (pw_use hP hK hN [0, 1] rfl [0] rfl)⟩ rfl rfl hl.1 rfl (lv_room (Nat.le_of_ble_eq_true rfl)) dX10_likely_4 ⟨lel 0 0 rfl, lel 0 0 rfl⟩) (fun r_1 hr_1 => ?_)
  obtain rfl : r_1 = 0 := hr_1
  refine lv_if_eq (tgt := 41) hx hb dX10_likely_7 (by decide) (fun _ => ?_) (fun c_2 => absurd c_2 (by decide))
  refine lv_iconst (v := 0) hx hb dX10_likely_41 (by decide) ?_
  refine vp_callSi (W.runV (As := [.int a1, .int 0]) (rest := []) ⟨hx, hb, hml, hown, hts⟩ (kX10_asksWorn l dC dI h0 m_world m_images m_hasImage m_luck m_tape m_five m_fresh m_waits m_figures m_pile m_times m_far m_queue m_months m_ways m_waysOn m_many m_width m_numbers m_moving cI a1) (cwV 2 hts gX10_likely__X10_asksWorn_V377 rfl rfl rfl (by decide +kernel) ⟨lel 3 3 rfl, lel 67 67 rfl⟩) ⟨pw_fb, va_recv hK hP (ci := 8) (q0 := 0) rfl rfl, (pw_use hP hK hN [0, 1] rfl [0] rfl)⟩ rfl rfl hl.1 rfl (lv_room (Nat.le_of_ble_eq_true rfl)) dX10_likely_42 ⟨lel 0 0 rfl, lel 0 0 rfl⟩) (fun r_3 hr_3 => ?_)
  obtain rfl : r_3 = (-2) := hr_3
  refine lv_istore (lv' := [(5, .int (-2)), (0, .ref h0), (1, .int a1), (2, .int a2), (3, .int a3), (4, .int a4)]) hx hb dX10_likely_45 hl (by decide) rfl (fun ls hl => ?_)
  refine lv_iload hx hb dX10_likely_47 (lv_at hl 0 rfl) ?_
  refine lv_if_ge (tgt := 55) hx hb dX10_likely_49 (by decide) (fun c_4 => absurd c_4 (by decide)) (fun _ => ?_)
  refine lv_iload hx hb dX10_likely_52 (lv_at hl 0 rfl) ?_
  exact W.iret (v := (-2)) hx hb hr (fun t ht hW => ⟨(-2), rfl, rfl, ht⟩) t_nil dX10_likely_54
theorem dX10_judge_0 : decode cX10_judge 0 = .ok (.aload_n 0, 1) := by decide +kernel
theorem dX10_judge_1 : decode cX10_judge 1 = .ok (.iload_n 1, 1) := by decide +kernel
theorem dX10_judge_2 : decode cX10_judge 2 = .ok (.iload_n 2, 1) := by decide +kernel
theorem dX10_judge_3 : decode cX10_judge 3 = .ok (.invokevirtual 421, 3) := by decide +kernel
theorem dX10_judge_6 : decode cX10_judge 6 = .ok (.istore_n 3, 1) := by decide +kernel
theorem dX10_judge_7 : decode cX10_judge 7 = .ok (.iload_n 3, 1) := by decide +kernel
theorem dX10_judge_8 : decode cX10_judge 8 = .ok (.ifCond .ge 5, 3) := by decide +kernel
theorem dX10_judge_11 : decode cX10_judge 11 = .ok (.iload_n 3, 1) := by decide +kernel
theorem dX10_judge_12 : decode cX10_judge 12 = .ok (.ireturn, 1) := by decide +kernel
def uX10_judge : List Cond := .code yX10_judge cX10_judge 5 (some .int) :: ([.methodLink RX10 421 yX10_asksRow, .instanceMethod yX10_asksRow, .selects RX10 yX10_asksRow yX10_asksRow, .initialized RX10, .code yX10_asksRow cX10_asksRow 3 (some .int), .methodLink RX10 369 yX10_isSlot, .static yX10_isSlot, .code yX10_isSlot cX10_isSlot 1 (some .boolean), .constantLong RX10 375 (3), .methodLink RX10 82 yX10_in, .static yX10_in, .code yX10_in cX10_in 6 (some .boolean), .methodLink RX10 89 yX10_isLaw, .instanceMethod yX10_isLaw, .selects RX10 yX10_isLaw yX10_isLaw, .code yX10_isLaw cX10_isLaw 2 (some .boolean), .fieldLink RX10 9 "LuckyTicketModel" "world" "[I"] ++ wsX100)
theorem iX10_judge_X10 : ∀ w ∈ wsX100, w ∈ uX10_judge := fun _ h => List.mem_cons_of_mem _ (List.mem_append_right _ h)
set_option maxRecDepth 20000 in
theorem gX10_judge__X10_asksRow_V421 : GoodIn uX10_judge (wsV RX10 421 RX10 yX10_asksRow uX10_asksRow) := goodIn_p _ [5, 8, 12, 16] rfl (by decide +kernel)
set_option maxHeartbeats 4000000 in
set_option maxRecDepth 100000 in
theorem kX10_judge (l : Launch) (dC : Nat → ClassId) (dI : Nat → Nat → Nat) (h0 : Nat) (m_world : Nat) (m_images : Nat) (m_hasImage : Nat) (m_luck : Nat) (m_tape : Nat) (m_five : Nat) (m_fresh : Nat) (m_waits : Nat) (m_figures : Nat) (m_pile : Nat) (m_times : Nat) (m_far : Nat) (m_queue : Nat) (m_months : Nat) (m_ways : Nat) (m_waysOn : Nat) (m_many : Nat) (m_width : Nat) (m_numbers : Nat) (m_moving : Nat) (cI : ClassId) (a1 : Int32) (a2 : Int32) : Met l yX10_judge uX10_judge ({ frames := 3, cells := 0, slots := 0, locals := 68 }) (va_Pc [.ref h0, .int a1, .int a2] (pw (dC, dI) vwCl [(h0, .inr (8, [.int 0, .ref m_world, .ref m_images, .ref m_hasImage, .ref m_luck, .ref m_tape, .int 0, .ref m_five, .int 0, .int 0, .int 0, .int 0, .int 0, .int 0, .int (-1), .ref m_fresh, .ref m_waits, .int 0, .int 0, .int 0, .ref m_figures, .ref m_pile, .long 0, .ref m_times, .ref m_far, .ref m_queue, .ref m_months, .ref m_ways, .ref m_waysOn, .ref m_many, .ref m_width, .ref m_numbers, .ref m_moving])), (m_world, .inl (cI, 1875, .inl (fun _ => 0)))] [(cI, .int)])) (vp_Si (fun r => r = (-2))) 0 0 (fun _ => False) := by
  refine Met.ofW (cc := cX10_judge) (maxL := 5) (ret := (some .int)) (by decide) rfl ?_
  intro p e s m args below meth c s₁ B hml hv
  obtain ⟨rfl, hP, hK, hN⟩ := hv
  have hx := B.exec
  have hb := B.bytes
  have hr := B.returns
  have hts := atoms_spec (ws := uX10_judge) B.pre
  have hown : s.vm.findClass RX10 = some m.cls := findClass_of_methodNamed B.named
  have hlocks := B.notSynchronized
  have hl := lv_entry ([.ref h0, .int a1, .int a2]) (n := 5) (Nat.le_of_ble_eq_true rfl)
  rw [lg_entry_eq]
  generalize (lg_sl ([.ref h0, .int a1, .int a2]) ++ List.replicate (5 - (lg_sl ([.ref h0, .int a1, .int a2])).length) Slot.unset).toArray = ls at hl ⊢
  have hl : lv_has ls 5 [(0, .ref h0), (1, .int a1), (2, .int a2)] := hl
  refine lv_aload_n hx hb dX10_judge_0 rfl (lv_at hl 0 rfl) ?_
  refine lv_iload_n hx hb dX10_judge_1 rfl (lv_at hl 1 rfl) ?_
  refine lv_iload_n hx hb dX10_judge_2 rfl (lv_at hl 2 rfl) ?_
  refine vp_callSi (W.runV (As := [.int a1, .int a2]) (rest := []) ⟨hx, hb, hml, hown, hts⟩ (kX10_asksRow l dC dI h0 m_world m_images m_hasImage m_luck m_tape m_five m_fresh m_waits m_figures m_pile m_times m_far m_queue m_months m_ways m_waysOn m_many m_width m_numbers m_moving cI a1 a2) (cwV 2 hts gX10_judge__X10_asksRow_V421 rfl rfl rfl (by decide +kernel) ⟨lel 3 3 rfl, lel 68 68 rfl⟩) ⟨pw_fb, va_recv hK hP (ci := 8) (q0 := 0) rfl rfl, (pw_use hP hK hN [0, 1] rfl [0] rfl)⟩ rfl rfl hl.1 rfl (lv_room (Nat.le_of_ble_eq_true rfl)) dX10_judge_3 ⟨lel 0 0 rfl, lel 0 0 rfl⟩) (fun r_1 hr_1 => ?_)
  obtain rfl : r_1 = (-2) := hr_1
  refine lv_istore_n (lv' := [(3, .int (-2)), (0, .ref h0), (1, .int a1), (2, .int a2)]) hx hb dX10_judge_6 rfl hl (by decide) rfl (fun ls hl => ?_)
  refine lv_iload_n hx hb dX10_judge_7 rfl (lv_at hl 0 rfl) ?_
  refine lv_if_ge (tgt := 13) hx hb dX10_judge_8 (by decide) (fun c_2 => absurd c_2 (by decide)) (fun _ => ?_)
  refine lv_iload_n hx hb dX10_judge_11 rfl (lv_at hl 0 rfl) ?_
  exact W.iret (v := (-2)) hx hb hr (fun t ht hW => ⟨(-2), rfl, rfl, ht⟩) t_nil dX10_judge_12
theorem dX10_kept_0 : decode cX10_kept 0 = .ok (.aload_n 0, 1) := by decide +kernel
theorem dX10_kept_1 : decode cX10_kept 1 = .ok (.iload_n 1, 1) := by decide +kernel
theorem dX10_kept_2 : decode cX10_kept 2 = .ok (.iload_n 2, 1) := by decide +kernel
theorem dX10_kept_3 : decode cX10_kept 3 = .ok (.invokevirtual 421, 3) := by decide +kernel
theorem dX10_kept_6 : decode cX10_kept 6 = .ok (.istore_n 3, 1) := by decide +kernel
theorem dX10_kept_7 : decode cX10_kept 7 = .ok (.iload_n 3, 1) := by decide +kernel
theorem dX10_kept_8 : decode cX10_kept 8 = .ok (.ifCond .ge 5, 3) := by decide +kernel
theorem dX10_kept_11 : decode cX10_kept 11 = .ok (.iload_n 3, 1) := by decide +kernel
theorem dX10_kept_12 : decode cX10_kept 12 = .ok (.ireturn, 1) := by decide +kernel
def uX10_kept : List Cond := .code yX10_kept cX10_kept 8 (some .int) :: ([.methodLink RX10 421 yX10_asksRow, .instanceMethod yX10_asksRow, .selects RX10 yX10_asksRow yX10_asksRow, .initialized RX10, .code yX10_asksRow cX10_asksRow 3 (some .int), .methodLink RX10 369 yX10_isSlot, .static yX10_isSlot, .code yX10_isSlot cX10_isSlot 1 (some .boolean), .constantLong RX10 375 (3), .methodLink RX10 82 yX10_in, .static yX10_in, .code yX10_in cX10_in 6 (some .boolean), .methodLink RX10 89 yX10_isLaw, .instanceMethod yX10_isLaw, .selects RX10 yX10_isLaw yX10_isLaw, .code yX10_isLaw cX10_isLaw 2 (some .boolean), .fieldLink RX10 9 "LuckyTicketModel" "world" "[I"] ++ wsX100)
theorem iX10_kept_X10 : ∀ w ∈ wsX100, w ∈ uX10_kept := fun _ h => List.mem_cons_of_mem _ (List.mem_append_right _ h)
set_option maxRecDepth 20000 in
theorem gX10_kept__X10_asksRow_V421 : GoodIn uX10_kept (wsV RX10 421 RX10 yX10_asksRow uX10_asksRow) := goodIn_p _ [5, 8, 12, 16] rfl (by decide +kernel)
set_option maxHeartbeats 4000000 in
set_option maxRecDepth 100000 in
theorem kX10_kept (l : Launch) (dC : Nat → ClassId) (dI : Nat → Nat → Nat) (h0 : Nat) (m_world : Nat) (m_images : Nat) (m_hasImage : Nat) (m_luck : Nat) (m_tape : Nat) (m_five : Nat) (m_fresh : Nat) (m_waits : Nat) (m_figures : Nat) (m_pile : Nat) (m_times : Nat) (m_far : Nat) (m_queue : Nat) (m_months : Nat) (m_ways : Nat) (m_waysOn : Nat) (m_many : Nat) (m_width : Nat) (m_numbers : Nat) (m_moving : Nat) (cI : ClassId) (a1 : Int32) (a2 : Int32) : Met l yX10_kept uX10_kept ({ frames := 3, cells := 0, slots := 0, locals := 68 }) (va_Pc [.ref h0, .int a1, .int a2] (pw (dC, dI) vwCl [(h0, .inr (8, [.int 0, .ref m_world, .ref m_images, .ref m_hasImage, .ref m_luck, .ref m_tape, .int 0, .ref m_five, .int 0, .int 0, .int 0, .int 0, .int 0, .int 0, .int (-1), .ref m_fresh, .ref m_waits, .int 0, .int 0, .int 0, .ref m_figures, .ref m_pile, .long 0, .ref m_times, .ref m_far, .ref m_queue, .ref m_months, .ref m_ways, .ref m_waysOn, .ref m_many, .ref m_width, .ref m_numbers, .ref m_moving])), (m_world, .inl (cI, 1875, .inl (fun _ => 0)))] [(cI, .int)])) (vp_Si (fun r => r = (-2))) 0 0 (fun _ => False) := by
  refine Met.ofW (cc := cX10_kept) (maxL := 8) (ret := (some .int)) (by decide) rfl ?_
  intro p e s m args below meth c s₁ B hml hv
  obtain ⟨rfl, hP, hK, hN⟩ := hv
  have hx := B.exec
  have hb := B.bytes
  have hr := B.returns
  have hts := atoms_spec (ws := uX10_kept) B.pre
  have hown : s.vm.findClass RX10 = some m.cls := findClass_of_methodNamed B.named
  have hlocks := B.notSynchronized
  have hl := lv_entry ([.ref h0, .int a1, .int a2]) (n := 8) (Nat.le_of_ble_eq_true rfl)
  rw [lg_entry_eq]
  generalize (lg_sl ([.ref h0, .int a1, .int a2]) ++ List.replicate (8 - (lg_sl ([.ref h0, .int a1, .int a2])).length) Slot.unset).toArray = ls at hl ⊢
  have hl : lv_has ls 8 [(0, .ref h0), (1, .int a1), (2, .int a2)] := hl
  refine lv_aload_n hx hb dX10_kept_0 rfl (lv_at hl 0 rfl) ?_
  refine lv_iload_n hx hb dX10_kept_1 rfl (lv_at hl 1 rfl) ?_
  refine lv_iload_n hx hb dX10_kept_2 rfl (lv_at hl 2 rfl) ?_
  refine vp_callSi (W.runV (As := [.int a1, .int a2]) (rest := []) ⟨hx, hb, hml, hown, hts⟩ (kX10_asksRow l dC dI h0 m_world m_images m_hasImage m_luck m_tape m_five m_fresh m_waits m_figures m_pile m_times m_far m_queue m_months m_ways m_waysOn m_many m_width m_numbers m_moving cI a1 a2) (cwV 2 hts gX10_kept__X10_asksRow_V421 rfl rfl rfl (by decide +kernel) ⟨lel 3 3 rfl, lel 68 68 rfl⟩) ⟨pw_fb, va_recv hK hP (ci := 8) (q0 := 0) rfl rfl, (pw_use hP hK hN [0, 1] rfl [0] rfl)⟩ rfl rfl hl.1 rfl (lv_room (Nat.le_of_ble_eq_true rfl)) dX10_kept_3 ⟨lel 0 0 rfl, lel 0 0 rfl⟩) (fun r_1 hr_1 => ?_)
  obtain rfl : r_1 = (-2) := hr_1
  refine lv_istore_n (lv' := [(3, .int (-2)), (0, .ref h0), (1, .int a1), (2, .int a2)]) hx hb dX10_kept_6 rfl hl (by decide) rfl (fun ls hl => ?_)
  refine lv_iload_n hx hb dX10_kept_7 rfl (lv_at hl 0 rfl) ?_
  refine lv_if_ge (tgt := 13) hx hb dX10_kept_8 (by decide) (fun c_2 => absurd c_2 (by decide)) (fun _ => ?_)
  refine lv_iload_n hx hb dX10_kept_11 rfl (lv_at hl 0 rfl) ?_
  exact W.iret (v := (-2)) hx hb hr (fun t ht hW => ⟨(-2), rfl, rfl, ht⟩) t_nil dX10_kept_12
