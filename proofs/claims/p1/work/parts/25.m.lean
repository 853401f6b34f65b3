theorem dX10_figure_0 : decode cX10_figure 0 = .ok (.aload_n 0, 1) := by decide +kernel
theorem dX10_figure_1 : decode cX10_figure 1 = .ok (.iload_n 1, 1) := by decide +kernel
theorem dX10_figure_2 : decode cX10_figure 2 = .ok (.i2l, 1) := by decide +kernel
theorem dX10_figure_3 : decode cX10_figure 3 = .ok (.invokevirtual 93, 3) := by decide +kernel
theorem dX10_figure_6 : decode cX10_figure 6 = .ok (.ifCond .eq 11, 3) := by decide +kernel
theorem dX10_figure_17 : decode cX10_figure 17 = .ok (.bipush (-2), 2) := by decide +kernel
theorem dX10_figure_19 : decode cX10_figure 19 = .ok (.ireturn, 1) := by decide +kernel
def uX10_figure : List Cond := .code yX10_figure cX10_figure 3 (some .int) :: ([.methodLink RX10 93 yX10_isTicket, .instanceMethod yX10_isTicket, .selects RX10 yX10_isTicket yX10_isTicket, .initialized RX10, .code yX10_isTicket cX10_isTicket 3 (some .boolean), .fieldLink RX10 9 "LuckyTicketModel" "world" "[I", .methodLink RX10 82 yX10_in, .static yX10_in, .code yX10_in cX10_in 6 (some .boolean)] ++ wsX100)
theorem iX10_figure_X10 : ∀ w ∈ wsX100, w ∈ uX10_figure := fun _ h => List.mem_cons_of_mem _ (List.mem_append_right _ h)
set_option maxRecDepth 20000 in
theorem gX10_figure__X10_isTicket_V93 : GoodIn uX10_figure (wsV RX10 93 RX10 yX10_isTicket uX10_isTicket) := goodIn_p _ [5, 9] rfl (by decide +kernel)
set_option maxHeartbeats 4000000 in
set_option maxRecDepth 100000 in
theorem kX10_figure (l : Launch) (dC : Nat → ClassId) (dI : Nat → Nat → Nat) (h0 : Nat) (m_world : Nat) (m_images : Nat) (m_hasImage : Nat) (m_luck : Nat) (m_tape : Nat) (m_five : Nat) (m_fresh : Nat) (m_waits : Nat) (m_figures : Nat) (m_pile : Nat) (m_times : Nat) (m_far : Nat) (m_queue : Nat) (m_months : Nat) (m_ways : Nat) (m_waysOn : Nat) (m_many : Nat) (m_width : Nat) (m_numbers : Nat) (m_moving : Nat) (cI : ClassId) (a1 : Int32) (a2 : Int32) : Met l yX10_figure uX10_figure ({ frames := 2, cells := 0, slots := 0, locals := 47 }) (va_Pc [.ref h0, .int a1, .int a2] (pw (dC, dI) vwCl [(h0, .inr (8, [.int 0, .ref m_world, .ref m_images, .ref m_hasImage, .ref m_luck, .ref m_tape, .int 0, .ref m_five, .int 0, .int 0, .int 0, .int 0, .int 0, .int 0, .int (-1), .ref m_fresh, .ref m_waits, .int 0, .int 0, .int 0, .ref m_figures, .ref m_pile, .long 0, .ref m_times, .ref m_far, .ref m_queue, .ref m_months, .ref m_ways, .ref m_waysOn, .ref m_many, .ref m_width, .ref m_numbers, .ref m_moving])), (m_world, .inl (cI, 1875, .inl (fun _ => 0)))] [(cI, .int)])) (vp_Si (fun r => r = (-2))) 0 0 (fun _ => False) := by
  refine Met.ofW (cc := cX10_figure) (maxL := 3) (ret := (some .int)) (by decide) rfl ?_
  intro p e s m args below meth c s₁ B hml hv
  obtain ⟨rfl, hP, hK, hN⟩ := hv
  have hx := B.exec
  have hb := B.bytes
  have hr := B.returns
  have hts := atoms_spec (ws := uX10_figure) B.pre
  have hown : s.vm.findClass RX10 = some m.cls := findClass_of_methodNamed B.named
  have hlocks := B.notSynchronized
  have hl := lv_entry ([.ref h0, .int a1, .int a2]) (n := 3) (Nat.le_of_ble_eq_true rfl)
  rw [lg_entry_eq]
  generalize (lg_sl ([.ref h0, .int a1, .int a2]) ++ List.replicate (3 - (lg_sl ([.ref h0, .int a1, .int a2])).length) Slot.unset).toArray = ls at hl ⊢
  have hl : lv_has ls 3 [(0, .ref h0), (1, .int a1), (2, .int a2)] := hl
  refine lv_aload_n hx hb dX10_figure_0 rfl (lv_at hl 0 rfl) ?_
  refine lv_iload_n hx hb dX10_figure_1 rfl (lv_at hl 1 rfl) ?_
  refine lv_i2l (v := a1.toInt64) hx hb dX10_figure_2 rfl ?_
  refine vp_callSi (W.runV (As := [.long a1.toInt64]) (rest := []) ⟨hx, hb, hml, hown, hts⟩ (kX10_isTicket l dC dI h0 m_world m_images m_hasImage m_luck m_tape m_five m_fresh m_waits m_figures m_pile m_times m_far m_queue m_months m_ways m_waysOn m_many m_width m_numbers m_moving cI a1.toInt64) (cwV 1 hts gX10_figure__X10_isTicket_V93 rfl rfl rfl (by decide +kernel) ⟨lel 2 2 rfl, lel 47 47 rfl⟩) ⟨pw_fb, va_recv hK hP (ci := 8) (q0 := 0) rfl rfl, (pw_use hP hK hN [0, 1] rfl [0] rfl)⟩ rfl rfl hl.1 rfl (lv_room (Nat.le_of_ble_eq_true rfl)) dX10_figure_3 ⟨lel 0 0 rfl, lel 0 0 rfl⟩) (fun r_1 hr_1 => ?_)
  obtain rfl : r_1 = 0 := hr_1
  refine lv_if_eq (tgt := 17) hx hb dX10_figure_6 (by decide) (fun _ => ?_) (fun c_2 => absurd c_2 (by decide))
  refine lv_bipush (v := (-2)) hx hb dX10_figure_17 (by decide) ?_
  exact W.iret (v := (-2)) hx hb hr (fun t ht hW => ⟨(-2), rfl, rfl, ht⟩) t_nil dX10_figure_19
theorem dX10_sums_0 : decode cX10_sums 0 = .ok (.aload_n 0, 1) := by decide +kernel
theorem dX10_sums_1 : decode cX10_sums 1 = .ok (.iload_n 1, 1) := by decide +kernel
theorem dX10_sums_2 : decode cX10_sums 2 = .ok (.i2l, 1) := by decide +kernel
theorem dX10_sums_3 : decode cX10_sums 3 = .ok (.invokevirtual 93, 3) := by decide +kernel
theorem dX10_sums_6 : decode cX10_sums 6 = .ok (.ifCond .eq 15, 3) := by decide +kernel
theorem dX10_sums_21 : decode cX10_sums 21 = .ok (.bipush (-2), 2) := by decide +kernel
theorem dX10_sums_23 : decode cX10_sums 23 = .ok (.ireturn, 1) := by decide +kernel
def uX10_sums : List Cond := .code yX10_sums cX10_sums 3 (some .int) :: ([.methodLink RX10 93 yX10_isTicket, .instanceMethod yX10_isTicket, .selects RX10 yX10_isTicket yX10_isTicket, .initialized RX10, .code yX10_isTicket cX10_isTicket 3 (some .boolean), .fieldLink RX10 9 "LuckyTicketModel" "world" "[I", .methodLink RX10 82 yX10_in, .static yX10_in, .code yX10_in cX10_in 6 (some .boolean)] ++ wsX100)
theorem iX10_sums_X10 : ∀ w ∈ wsX100, w ∈ uX10_sums := fun _ h => List.mem_cons_of_mem _ (List.mem_append_right _ h)
set_option maxRecDepth 20000 in
theorem gX10_sums__X10_isTicket_V93 : GoodIn uX10_sums (wsV RX10 93 RX10 yX10_isTicket uX10_isTicket) := goodIn_p _ [5, 9] rfl (by decide +kernel)
set_option maxHeartbeats 4000000 in
set_option maxRecDepth 100000 in
theorem kX10_sums (l : Launch) (dC : Nat → ClassId) (dI : Nat → Nat → Nat) (h0 : Nat) (m_world : Nat) (m_images : Nat) (m_hasImage : Nat) (m_luck : Nat) (m_tape : Nat) (m_five : Nat) (m_fresh : Nat) (m_waits : Nat) (m_figures : Nat) (m_pile : Nat) (m_times : Nat) (m_far : Nat) (m_queue : Nat) (m_months : Nat) (m_ways : Nat) (m_waysOn : Nat) (m_many : Nat) (m_width : Nat) (m_numbers : Nat) (m_moving : Nat) (cI : ClassId) (a1 : Int32) (a2 : Int32) : Met l yX10_sums uX10_sums ({ frames := 2, cells := 0, slots := 0, locals := 47 }) (va_Pc [.ref h0, .int a1, .int a2] (pw (dC, dI) vwCl [(h0, .inr (8, [.int 0, .ref m_world, .ref m_images, .ref m_hasImage, .ref m_luck, .ref m_tape, .int 0, .ref m_five, .int 0, .int 0, .int 0, .int 0, .int 0, .int 0, .int (-1), .ref m_fresh, .ref m_waits, .int 0, .int 0, .int 0, .ref m_figures, .ref m_pile, .long 0, .ref m_times, .ref m_far, .ref m_queue, .ref m_months, .ref m_ways, .ref m_waysOn, .ref m_many, .ref m_width, .ref m_numbers, .ref m_moving])), (m_world, .inl (cI, 1875, .inl (fun _ => 0)))] [(cI, .int)])) (vp_Si (fun r => r = (-2))) 0 0 (fun _ => False) := by
  refine Met.ofW (cc := cX10_sums) (maxL := 3) (ret := (some .int)) (by decide) rfl ?_
  intro p e s m args below meth c s₁ B hml hv
  obtain ⟨rfl, hP, hK, hN⟩ := hv
  have hx := B.exec
  have hb := B.bytes
  have hr := B.returns
  have hts := atoms_spec (ws := uX10_sums) B.pre
  have hown : s.vm.findClass RX10 = some m.cls := findClass_of_methodNamed B.named
  have hlocks := B.notSynchronized
  have hl := lv_entry ([.ref h0, .int a1, .int a2]) (n := 3) (Nat.le_of_ble_eq_true rfl)
  rw [lg_entry_eq]
  generalize (lg_sl ([.ref h0, .int a1, .int a2]) ++ List.replicate (3 - (lg_sl ([.ref h0, .int a1, .int a2])).length) Slot.unset).toArray = ls at hl ⊢
  have hl : lv_has ls 3 [(0, .ref h0), (1, .int a1), (2, .int a2)] := hl
  refine lv_aload_n hx hb dX10_sums_0 rfl (lv_at hl 0 rfl) ?_
  refine lv_iload_n hx hb dX10_sums_1 rfl (lv_at hl 1 rfl) ?_
  refine lv_i2l (v := a1.toInt64) hx hb dX10_sums_2 rfl ?_
  refine vp_callSi (W.runV (As := [.long a1.toInt64]) (rest := []) ⟨hx, hb, hml, hown, hts⟩ (kX10_isTicket l dC dI h0 m_world m_images m_hasImage m_luck m_tape m_five m_fresh m_waits m_figures m_pile m_times m_far m_queue m_months m_ways m_waysOn m_many m_width m_numbers m_moving cI a1.toInt64) (cwV 1 hts gX10_sums__X10_isTicket_V93 rfl rfl rfl (by decide +kernel) ⟨lel 2 2 rfl, lel 47 47 rfl⟩) ⟨pw_fb, va_recv hK hP (ci := 8) (q0 := 0) rfl rfl, (pw_use hP hK hN [0, 1] rfl [0] rfl)⟩ rfl rfl hl.1 rfl (lv_room (Nat.le_of_ble_eq_true rfl)) dX10_sums_3 ⟨lel 0 0 rfl, lel 0 0 rfl⟩) (fun r_1 hr_1 => ?_)
  obtain rfl : r_1 = 0 := hr_1
  refine lv_if_eq (tgt := 21) hx hb dX10_sums_6 (by decide) (fun _ => ?_) (fun c_2 => absurd c_2 (by decide))
  refine lv_bipush (v := (-2)) hx hb dX10_sums_21 (by decide) ?_
  exact W.iret (v := (-2)) hx hb hr (fun t ht hW => ⟨(-2), rfl, rfl, ht⟩) t_nil dX10_sums_23
theorem dX10_lucky_0 : decode cX10_lucky 0 = .ok (.aload_n 0, 1) := by decide +kernel
theorem dX10_lucky_1 : decode cX10_lucky 1 = .ok (.iload_n 1, 1) := by decide +kernel
theorem dX10_lucky_2 : decode cX10_lucky 2 = .ok (.iload_n 2, 1) := by decide +kernel
theorem dX10_lucky_3 : decode cX10_lucky 3 = .ok (.invokevirtual 313, 3) := by decide +kernel
theorem dX10_lucky_6 : decode cX10_lucky 6 = .ok (.ifCond .ne 8, 3) := by decide +kernel
theorem dX10_lucky_9 : decode cX10_lucky 9 = .ok (.bipush (-2), 2) := by decide +kernel
theorem dX10_lucky_11 : decode cX10_lucky 11 = .ok (.goto 17, 3) := by decide +kernel
theorem dX10_lucky_28 : decode cX10_lucky 28 = .ok (.ireturn, 1) := by decide +kernel
def uX10_lucky : List Cond := .code yX10_lucky cX10_lucky 3 (some .int) :: ([.methodLink RX10 313 yX10_isBoth, .instanceMethod yX10_isBoth, .selects RX10 yX10_isBoth yX10_isBoth, .initialized RX10, .code yX10_isBoth cX10_isBoth 3 (some .boolean), .methodLink RX10 89 yX10_isLaw, .instanceMethod yX10_isLaw, .selects RX10 yX10_isLaw yX10_isLaw, .code yX10_isLaw cX10_isLaw 2 (some .boolean), .fieldLink RX10 9 "LuckyTicketModel" "world" "[I", .methodLink RX10 82 yX10_in, .static yX10_in, .code yX10_in cX10_in 6 (some .boolean)] ++ wsX100)
theorem iX10_lucky_X10 : ∀ w ∈ wsX100, w ∈ uX10_lucky := fun _ h => List.mem_cons_of_mem _ (List.mem_append_right _ h)
set_option maxRecDepth 20000 in
theorem gX10_lucky__X10_isBoth_V313 : GoodIn uX10_lucky (wsV RX10 313 RX10 yX10_isBoth uX10_isBoth) := goodIn_p _ [5, 9, 13] rfl (by decide +kernel)
set_option maxHeartbeats 4000000 in
set_option maxRecDepth 100000 in
theorem kX10_lucky (l : Launch) (dC : Nat → ClassId) (dI : Nat → Nat → Nat) (h0 : Nat) (m_world : Nat) (m_images : Nat) (m_hasImage : Nat) (m_luck : Nat) (m_tape : Nat) (m_five : Nat) (m_fresh : Nat) (m_waits : Nat) (m_figures : Nat) (m_pile : Nat) (m_times : Nat) (m_far : Nat) (m_queue : Nat) (m_months : Nat) (m_ways : Nat) (m_waysOn : Nat) (m_many : Nat) (m_width : Nat) (m_numbers : Nat) (m_moving : Nat) (cI : ClassId) (a1 : Int32) (a2 : Int32) : Met l yX10_lucky uX10_lucky ({ frames := 3, cells := 0, slots := 0, locals := 68 }) (va_Pc [.ref h0, .int a1, .int a2] (pw (dC, dI) vwCl [(h0, .inr (8, [.int 0, .ref m_world, .ref m_images, .ref m_hasImage, .ref m_luck, .ref m_tape, .int 0, .ref m_five, .int 0, .int 0, .int 0, .int 0, .int 0, .int 0, .int (-1), .ref m_fresh, .ref m_waits, .int 0, .int 0, .int 0, .ref m_figures, .ref m_pile, .long 0, .ref m_times, .ref m_far, .ref m_queue, .ref m_months, .ref m_ways, .ref m_waysOn, .ref m_many, .ref m_width, .ref m_numbers, .ref m_moving])), (m_world, .inl (cI, 1875, .inl (fun _ => 0)))] [(cI, .int)])) (vp_Si (fun r => r = (-2))) 0 0 (fun _ => False) := by
  refine Met.ofW (cc := cX10_lucky) (maxL := 3) (ret := (some .int)) (by decide) rfl ?_
  intro p e s m args below meth c s₁ B hml hv
  obtain ⟨rfl, hP, hK, hN⟩ := hv
  have hx := B.exec
  have hb := B.bytes
  have hr := B.returns
  have hts := atoms_spec (ws := uX10_lucky) B.pre
  have hown : s.vm.findClass RX10 = some m.cls := findClass_of_methodNamed B.named
  have hlocks := B.notSynchronized
  have hl := lv_entry ([.ref h0, .int a1, .int a2]) (n := 3) (Nat.le_of_ble_eq_true rfl)
  rw [lg_entry_eq]
  generalize (lg_sl ([.ref h0, .int a1, .int a2]) ++ List.replicate (3 - (lg_sl ([.ref h0, .int a1, .int a2])).length) Slot.unset).toArray = ls at hl ⊢
  have hl : lv_has ls 3 [(0, .ref h0), (1, .int a1), (2, .int a2)] := hl
  refine lv_aload_n hx hb dX10_lucky_0 rfl (lv_at hl 0 rfl) ?_
  refine lv_iload_n hx hb dX10_lucky_1 rfl (lv_at hl 1 rfl) ?_
  refine lv_iload_n hx hb dX10_lucky_2 rfl (lv_at hl 2 rfl) ?_
  refine vp_callSi (W.runV (As := [.int a1, .int a2]) (rest := []) ⟨hx, hb, hml, hown, hts⟩ (kX10_isBoth l dC dI h0 m_world m_images m_hasImage m_luck m_tape m_five m_fresh m_waits m_figures m_pile m_times m_far m_queue m_months m_ways m_waysOn m_many m_width m_numbers m_moving cI a1 a2) (cwV 2 hts gX10_lucky__X10_isBoth_V313 rfl rfl rfl (by decide +kernel) ⟨lel 3 3 rfl, lel 68 68 rfl⟩) ⟨pw_fb, va_recv hK hP (ci := 8) (q0 := 0) rfl rfl, (pw_use hP hK hN [0, 1] rfl [0] rfl)⟩ rfl rfl hl.1 rfl (lv_room (Nat.le_of_ble_eq_true rfl)) dX10_lucky_3 ⟨lel 0 0 rfl, lel 0 0 rfl⟩) (fun r_1 hr_1 => ?_)
  obtain rfl : r_1 = 0 := hr_1
  refine lv_if_ne (tgt := 14) hx hb dX10_lucky_6 (by decide) (fun c_2 => absurd c_2 (by decide)) (fun _ => ?_)
  refine lv_bipush (v := (-2)) hx hb dX10_lucky_9 (by decide) ?_
  refine lv_goto (tgt := 28) hx hb dX10_lucky_11 (by decide) ?_
  exact W.iret (v := (-2)) hx hb hr (fun t ht hW => ⟨(-2), rfl, rfl, ht⟩) t_nil dX10_lucky_28
theorem dX10_laws_0 : decode cX10_laws 0 = .ok (.aload_n 0, 1) := by decide +kernel
theorem dX10_laws_1 : decode cX10_laws 1 = .ok (.iload_n 1, 1) := by decide +kernel
theorem dX10_laws_2 : decode cX10_laws 2 = .ok (.i2l, 1) := by decide +kernel
theorem dX10_laws_3 : decode cX10_laws 3 = .ok (.invokevirtual 93, 3) := by decide +kernel
theorem dX10_laws_6 : decode cX10_laws 6 = .ok (.ifCond .eq 12, 3) := by decide +kernel
theorem dX10_laws_18 : decode cX10_laws 18 = .ok (.bipush (-2), 2) := by decide +kernel
theorem dX10_laws_20 : decode cX10_laws 20 = .ok (.ireturn, 1) := by decide +kernel
def uX10_laws : List Cond := .code yX10_laws cX10_laws 2 (some .int) :: ([.methodLink RX10 93 yX10_isTicket, .instanceMethod yX10_isTicket, .selects RX10 yX10_isTicket yX10_isTicket, .initialized RX10, .code yX10_isTicket cX10_isTicket 3 (some .boolean), .fieldLink RX10 9 "LuckyTicketModel" "world" "[I", .methodLink RX10 82 yX10_in, .static yX10_in, .code yX10_in cX10_in 6 (some .boolean)] ++ wsX100)
theorem iX10_laws_X10 : ∀ w ∈ wsX100, w ∈ uX10_laws := fun _ h => List.mem_cons_of_mem _ (List.mem_append_right _ h)
set_option maxRecDepth 20000 in
theorem gX10_laws__X10_isTicket_V93 : GoodIn uX10_laws (wsV RX10 93 RX10 yX10_isTicket uX10_isTicket) := goodIn_p _ [5, 9] rfl (by decide +kernel)
set_option maxHeartbeats 4000000 in
set_option maxRecDepth 100000 in
theorem kX10_laws (l : Launch) (dC : Nat → ClassId) (dI : Nat → Nat → Nat) (h0 : Nat) (m_world : Nat) (m_images : Nat) (m_hasImage : Nat) (m_luck : Nat) (m_tape : Nat) (m_five : Nat) (m_fresh : Nat) (m_waits : Nat) (m_figures : Nat) (m_pile : Nat) (m_times : Nat) (m_far : Nat) (m_queue : Nat) (m_months : Nat) (m_ways : Nat) (m_waysOn : Nat) (m_many : Nat) (m_width : Nat) (m_numbers : Nat) (m_moving : Nat) (cI : ClassId) (a1 : Int32) : Met l yX10_laws uX10_laws ({ frames := 2, cells := 0, slots := 0, locals := 47 }) (va_Pc [.ref h0, .int a1] (pw (dC, dI) vwCl [(h0, .inr (8, [.int 0, .ref m_world, .ref m_images, .ref m_hasImage, .ref m_luck, .ref m_tape, .int 0, .ref m_five, .int 0, .int 0, .int 0, .int 0, .int 0, .int 0, .int (-1), .ref m_fresh, .ref m_waits, .int 0, .int 0, .int 0, .ref m_figures, .ref m_pile, .long 0, .ref m_times, .ref m_far, .ref m_queue, .ref m_months, .ref m_ways, .ref m_waysOn, .ref m_many, .ref m_width, .ref m_numbers, .ref m_moving])), (m_world, .inl (cI, 1875, .inl (fun _ => 0)))] [(cI, .int)])) (vp_Si (fun r => r = (-2))) 0 0 (fun _ => False) := by
  refine Met.ofW (cc := cX10_laws) (maxL := 2) (ret := (some .int)) (by decide) rfl ?_
  intro p e s m args below meth c s₁ B hml hv
  obtain ⟨rfl, hP, hK, hN⟩ := hv
  have hx := B.exec
  have hb := B.bytes
  have hr := B.returns
  have hts := atoms_spec (ws := uX10_laws) B.pre
  have hown : s.vm.findClass RX10 = some m.cls := findClass_of_methodNamed B.named
  have hlocks := B.notSynchronized
  have hl := lv_entry ([.ref h0, .int a1]) (n := 2) (Nat.le_of_ble_eq_true rfl)
  rw [lg_entry_eq]
  generalize (lg_sl ([.ref h0, .int a1]) ++ List.replicate (2 - (lg_sl ([.ref h0, .int a1])).length) Slot.unset).toArray = ls at hl ⊢
  have hl : lv_has ls 2 [(0, .ref h0), (1, .int a1)] := hl
  refine lv_aload_n hx hb dX10_laws_0 rfl (lv_at hl 0 rfl) ?_
  refine lv_iload_n hx hb dX10_laws_1 rfl (lv_at hl 1 rfl) ?_
  refine lv_i2l (v := a1.toInt64) hx hb dX10_laws_2 rfl ?_
  refine vp_callSi (W.runV (As := [.long a1.toInt64]) (rest := []) ⟨hx, hb, hml, hown, hts⟩ (kX10_isTicket l dC dI h0 m_world m_images m_hasImage m_luck m_tape m_five m_fresh m_waits m_figures m_pile m_times m_far m_queue m_months m_ways m_waysOn m_many m_width m_numbers m_moving cI a1.toInt64) (cwV 1 hts gX10_laws__X10_isTicket_V93 rfl rfl rfl (by decide +kernel) ⟨lel 2 2 rfl, lel 47 47 rfl⟩) ⟨pw_fb, va_recv hK hP (ci := 8) (q0 := 0) rfl rfl, (pw_use hP hK hN [0, 1] rfl [0] rfl)⟩ rfl rfl hl.1 rfl (lv_room (Nat.le_of_ble_eq_true rfl)) dX10_laws_3 ⟨lel 0 0 rfl, lel 0 0 rfl⟩) (fun r_1 hr_1 => ?_)
  obtain rfl : r_1 = 0 := hr_1
  refine lv_if_eq (tgt := 18) hx hb dX10_laws_6 (by decide) (fun _ => ?_) (fun c_2 => absurd c_2 (by decide))
  refine lv_bipush (v := (-2)) hx hb dX10_laws_18 (by decide) ?_
  exact W.iret (v := (-2)) hx hb hr (fun t ht hW => ⟨(-2), rfl, rfl, ht⟩) t_nil dX10_laws_20
theorem dX10_many_0 : decode cX10_many 0 = .ok (.aload_n 0, 1) := by decide +kernel
theorem dX10_many_1 : decode cX10_many 1 = .ok (.iload_n 1, 1) := by decide +kernel
theorem dX10_many_2 : decode cX10_many 2 = .ok (.invokevirtual 89, 3) := by decide +kernel
theorem dX10_many_5 : decode cX10_many 5 = .ok (.ifCond .eq 11, 3) := by decide +kernel
theorem dX10_many_16 : decode cX10_many 16 = .ok (.bipush (-2), 2) := by decide +kernel
theorem dX10_many_18 : decode cX10_many 18 = .ok (.ireturn, 1) := by decide +kernel
def uX10_many : List Cond := .code yX10_many cX10_many 2 (some .int) :: ([.methodLink RX10 89 yX10_isLaw, .instanceMethod yX10_isLaw, .selects RX10 yX10_isLaw yX10_isLaw, .initialized RX10, .code yX10_isLaw cX10_isLaw 2 (some .boolean), .fieldLink RX10 9 "LuckyTicketModel" "world" "[I", .methodLink RX10 82 yX10_in, .static yX10_in, .code yX10_in cX10_in 6 (some .boolean)] ++ wsX100)
theorem iX10_many_X10 : ∀ w ∈ wsX100, w ∈ uX10_many := fun _ h => List.mem_cons_of_mem _ (List.mem_append_right _ h)
set_option maxRecDepth 20000 in
theorem gX10_many__X10_isLaw_V89 : GoodIn uX10_many (wsV RX10 89 RX10 yX10_isLaw uX10_isLaw) := goodIn_p _ [5, 9] rfl (by decide +kernel)
set_option maxHeartbeats 4000000 in
set_option maxRecDepth 100000 in
theorem kX10_many (l : Launch) (dC : Nat → ClassId) (dI : Nat → Nat → Nat) (h0 : Nat) (m_world : Nat) (m_images : Nat) (m_hasImage : Nat) (m_luck : Nat) (m_tape : Nat) (m_five : Nat) (m_fresh : Nat) (m_waits : Nat) (m_figures : Nat) (m_pile : Nat) (m_times : Nat) (m_far : Nat) (m_queue : Nat) (m_months : Nat) (m_ways : Nat) (m_waysOn : Nat) (m_many : Nat) (m_width : Nat) (m_numbers : Nat) (m_moving : Nat) (cI : ClassId) (a1 : Int32) : Met l yX10_many uX10_many ({ frames := 2, cells := 0, slots := 0, locals := 46 }) (va_Pc [.ref h0, .int a1] (pw (dC, dI) vwCl [(h0, .inr (8, [.int 0, .ref m_world, .ref m_images, .ref m_hasImage, .ref m_luck, .ref m_tape, .int 0, .ref m_five, .int 0, .int 0, .int 0, .int 0, .int 0, .int 0, .int (-1), .ref m_fresh, .ref m_waits, .int 0, .int 0, .int 0, .ref m_figures, .ref m_pile, .long 0, .ref m_times, .ref m_far, .ref m_queue, .ref m_months, .ref m_ways, .ref m_waysOn, .ref m_many, .ref m_width, .ref m_numbers, .ref m_moving])), (m_world, .inl (cI, 1875, .inl (fun _ => 0)))] [(cI, .int)])) (vp_Si (fun r => r = (-2))) 0 0 (fun _ => False) := by
  refine Met.ofW (cc := cX10_many) (maxL := 2) (ret := (some .int)) (by decide) rfl ?_
  intro p e s m args below meth c s₁ B hml hv
  obtain ⟨rfl, hP, hK, hN⟩ := hv
  have hx := B.exec
  have hb := B.bytes
  have hr := B.returns
  have hts := atoms_spec (ws := uX10_many) B.pre
  have hown : s.vm.findClass RX10 = some m.cls := findClass_of_methodNamed B.named
  have hlocks := B.notSynchronized
  have hl := lv_entry ([.ref h0, .int a1]) (n := 2) (Nat.le_of_ble_eq_true rfl)
  rw [lg_entry_eq]
  generalize (lg_sl ([.ref h0, .int a1]) ++ List.replicate (2 - (lg_sl ([.ref h0, .int a1])).length) Slot.unset).toArray = ls at hl ⊢
  have hl : lv_has ls 2 [(0, .ref h0), (1, .int a1)] := hl
  refine lv_aload_n hx hb dX10_many_0 rfl (lv_at hl 0 rfl) ?_
  refine lv_iload_n hx hb dX10_many_1 rfl (lv_at hl 1 rfl) ?_
  refine vp_callSi (W.runV (As := [.int a1]) (rest := []) ⟨hx, hb, hml, hown, hts⟩ (kX10_isLaw l dC dI h0 m_world m_images m_hasImage m_luck m_tape m_five m_fresh m_waits m_figures m_pile m_times m_far m_queue m_months m_ways m_waysOn m_many m_width m_numbers m_moving cI a1) (cwV 1 hts gX10_many__X10_isLaw_V89 rfl rfl rfl (by decide +kernel) ⟨lel 2 2 rfl, lel 46 46 rfl⟩) ⟨pw_fb, va_recv hK hP (ci := 8) (q0 := 0) rfl rfl, (pw_use hP hK hN [0, 1] rfl [0] rfl)⟩ rfl rfl hl.1 rfl (lv_room (Nat.le_of_ble_eq_true rfl)) dX10_many_2 ⟨lel 0 0 rfl, lel 0 0 rfl⟩) (fun r_1 hr_1 => ?_)
  obtain rfl : r_1 = 0 := hr_1
  refine lv_if_eq (tgt := 16) hx hb dX10_many_5 (by decide) (fun _ => ?_) (fun c_2 => absurd c_2 (by decide))
  refine lv_bipush (v := (-2)) hx hb dX10_many_16 (by decide) ?_
  exact W.iret (v := (-2)) hx hb hr (fun t ht hW => ⟨(-2), rfl, rfl, ht⟩) t_nil dX10_many_18
theorem dX10_rank_0 : decode cX10_rank 0 = .ok (.aload_n 0, 1) := by decide +kernel
theorem dX10_rank_1 : decode cX10_rank 1 = .ok (.iload_n 1, 1) := by decide +kernel
theorem dX10_rank_2 : decode cX10_rank 2 = .ok (.invokevirtual 89, 3) := by decide +kernel
theorem dX10_rank_5 : decode cX10_rank 5 = .ok (.ifCond .eq 28, 3) := by decide +kernel
theorem dX10_rank_33 : decode cX10_rank 33 = .ok (.bipush (-2), 2) := by decide +kernel
theorem dX10_rank_35 : decode cX10_rank 35 = .ok (.ireturn, 1) := by decide +kernel
def uX10_rank : List Cond := .code yX10_rank cX10_rank 3 (some .int) :: ([.methodLink RX10 89 yX10_isLaw, .instanceMethod yX10_isLaw, .selects RX10 yX10_isLaw yX10_isLaw, .initialized RX10, .code yX10_isLaw cX10_isLaw 2 (some .boolean), .fieldLink RX10 9 "LuckyTicketModel" "world" "[I", .methodLink RX10 82 yX10_in, .static yX10_in, .code yX10_in cX10_in 6 (some .boolean)] ++ wsX100)
theorem iX10_rank_X10 : ∀ w ∈ wsX100, w ∈ uX10_rank := fun _ h => List.mem_cons_of_mem _ (List.mem_append_right _ h)
set_option maxRecDepth 20000 in
theorem gX10_rank__X10_isLaw_V89 : GoodIn uX10_rank (wsV RX10 89 RX10 yX10_isLaw uX10_isLaw) := goodIn_p _ [5, 9] rfl (by decide +kernel)
set_option maxHeartbeats 4000000 in
set_option maxRecDepth 100000 in
theorem kX10_rank (l : Launch) (dC : Nat → ClassId) (dI : Nat → Nat → Nat) (h0 : Nat) (m_world : Nat) (m_images : Nat) (m_hasImage : Nat) (m_luck : Nat) (m_tape : Nat) (m_five : Nat) (m_fresh : Nat) (m_waits : Nat) (m_figures : Nat) (m_pile : Nat) (m_times : Nat) (m_far : Nat) (m_queue : Nat) (m_months : Nat) (m_ways : Nat) (m_waysOn : Nat) (m_many : Nat) (m_width : Nat) (m_numbers : Nat) (m_moving : Nat) (cI : ClassId) (a1 : Int32) (a2 : Int32) : Met l yX10_rank uX10_rank ({ frames := 2, cells := 0, slots := 0, locals := 46 }) (va_Pc [.ref h0, .int a1, .int a2] (pw (dC, dI) vwCl [(h0, .inr (8, [.int 0, .ref m_world, .ref m_images, .ref m_hasImage, .ref m_luck, .ref m_tape, .int 0, .ref m_five, .int 0, .int 0, .int 0, .int 0, .int 0, .int 0, .int (-1), .ref m_fresh, .ref m_waits, .int 0, .int 0, .int 0, .ref m_figures, .ref m_pile, .long 0, .ref m_times, .ref m_far, .ref m_queue, .ref m_months, .ref m_ways, .ref m_waysOn, .ref m_many, .ref m_width, .ref m_numbers, .ref m_moving])), (m_world, .inl (cI, 1875, .inl (fun _ => 0)))] [(cI, .int)])) (vp_Si (fun r => r = (-2))) 0 0 (fun _ => False) := by
  refine Met.ofW (cc := cX10_rank) (maxL := 3) (ret := (some .int)) (by decide) rfl ?_
  intro p e s m args below meth c s₁ B hml hv
  obtain ⟨rfl, hP, hK, hN⟩ := hv
  have hx := B.exec
  have hb := B.bytes
  have hr := B.returns
  have hts := atoms_spec (ws := uX10_rank) B.pre
  have hown : s.vm.findClass RX10 = some m.cls := findClass_of_methodNamed B.named
  have hlocks := B.notSynchronized
  have hl := lv_entry ([.ref h0, .int a1, .int a2]) (n := 3) (Nat.le_of_ble_eq_true rfl)
  rw [lg_entry_eq]
  generalize (lg_sl ([.ref h0, .int a1, .int a2]) ++ List.replicate (3 - (lg_sl ([.ref h0, .int a1, .int a2])).length) Slot.unset).toArray = ls at hl ⊢
  have hl : lv_has ls 3 [(0, .ref h0), (1, .int a1), (2, .int a2)] := hl
  refine lv_aload_n hx hb dX10_rank_0 rfl (lv_at hl 0 rfl) ?_
  refine lv_iload_n hx hb dX10_rank_1 rfl (lv_at hl 1 rfl) ?_
  refine vp_callSi (W.runV (As := [.int a1]) (rest := []) ⟨hx, hb, hml, hown, hts⟩ (kX10_isLaw l dC dI h0 m_world m_images m_hasImage m_luck m_tape m_five m_fresh m_waits m_figures m_pile m_times m_far m_queue m_months m_ways m_waysOn m_many m_width m_numbers m_moving cI a1) (cwV 1 hts gX10_rank__X10_isLaw_V89 rfl rfl rfl (by decide +kernel) ⟨lel 2 2 rfl, lel 46 46 rfl⟩) ⟨pw_fb, va_recv hK hP (ci := 8) (q0 := 0) rfl rfl, (pw_use hP hK hN [0, 1] rfl [0] rfl)⟩ rfl rfl hl.1 rfl (lv_room (Nat.le_of_ble_eq_true rfl)) dX10_rank_2 ⟨lel 0 0 rfl, lel 0 0 rfl⟩) (fun r_1 hr_1 => ?_)
  obtain rfl : r_1 = 0 := hr_1
  refine lv_if_eq (tgt := 33) hx hb dX10_rank_5 (by decide) (fun _ => ?_) (fun c_2 => absurd c_2 (by decide))
  refine lv_bipush (v := (-2)) hx hb dX10_rank_33 (by decide) ?_
  exact W.iret (v := (-2)) hx hb hr (fun t ht hW => ⟨(-2), rfl, rfl, ht⟩) t_nil dX10_rank_35
theorem dX10_next_0 : decode cX10_next 0 = .ok (.aload_n 0, 1) := by decide +kernel
theorem dX10_next_1 : decode cX10_next 1 = .ok (.iload_n 1, 1) := by decide +kernel
theorem dX10_next_2 : decode cX10_next 2 = .ok (.iload_n 2, 1) := by decide +kernel
theorem dX10_next_3 : decode cX10_next 3 = .ok (.invokevirtual 313, 3) := by decide +kernel
theorem dX10_next_6 : decode cX10_next 6 = .ok (.ifCond .eq 14, 3) := by decide +kernel
theorem dX10_next_20 : decode cX10_next 20 = .ok (.bipush (-2), 2) := by decide +kernel
theorem dX10_next_22 : decode cX10_next 22 = .ok (.ireturn, 1) := by decide +kernel
def uX10_next : List Cond := .code yX10_next cX10_next 3 (some .int) :: ([.methodLink RX10 313 yX10_isBoth, .instanceMethod yX10_isBoth, .selects RX10 yX10_isBoth yX10_isBoth, .initialized RX10, .code yX10_isBoth cX10_isBoth 3 (some .boolean), .methodLink RX10 89 yX10_isLaw, .instanceMethod yX10_isLaw, .selects RX10 yX10_isLaw yX10_isLaw, .code yX10_isLaw cX10_isLaw 2 (some .boolean), .fieldLink RX10 9 "LuckyTicketModel" "world" "[I", .methodLink RX10 82 yX10_in, .static yX10_in, .code yX10_in cX10_in 6 (some .boolean)] ++ wsX100)
theorem iX10_next_X10 : ∀ w ∈ wsX100, w ∈ uX10_next := fun _ h => List.mem_cons_of_mem _ (List.mem_append_right _ h)
set_option maxRecDepth 20000 in
theorem gX10_next__X10_isBoth_V313 : GoodIn uX10_next (wsV RX10 313 RX10 yX10_isBoth uX10_isBoth) := goodIn_p _ [5, 9, 13] rfl (by decide +kernel)
set_option maxHeartbeats 4000000 in
set_option maxRecDepth 100000 in
theorem kX10_next (l : Launch) (dC : Nat → ClassId) (dI : Nat → Nat → Nat) (h0 : Nat) (m_world : Nat) (m_images : Nat) (m_hasImage : Nat) (m_luck : Nat) (m_tape : Nat) (m_five : Nat) (m_fresh : Nat) (m_waits : Nat) (m_figures : Nat) (m_pile : Nat) (m_times : Nat) (m_far : Nat) (m_queue : Nat) (m_months : Nat) (m_ways : Nat) (m_waysOn : Nat) (m_many : Nat) (m_width : Nat) (m_numbers : Nat) (m_moving : Nat) (cI : ClassId) (a1 : Int32) (a2 : Int32) : Met l yX10_next uX10_next ({ frames := 3, cells := 0, slots := 0, locals := 68 }) (va_Pc [.ref h0, .int a1, .int a2] (pw (dC, dI) vwCl [(h0, .inr (8, [.int 0, .ref m_world, .ref m_images, .ref m_hasImage, .ref m_luck, .ref m_tape, .int 0, .ref m_five, .int 0, .int 0, .int 0, .int 0, .int 0, .int 0, .int (-1), .ref m_fresh, .ref m_waits, .int 0, .int 0, .int 0, .ref m_figures, .ref m_pile, .long 0, .ref m_times, .ref m_far, .ref m_queue, .ref m_months, .ref m_ways, .ref m_waysOn, .ref m_many, .ref m_width, .ref m_numbers, .ref m_moving])), (m_world, .inl (cI, 1875, .inl (fun _ => 0)))] [(cI, .int)])) (vp_Si (fun r => r = (-2))) 0 0 (fun _ => False) := by
  refine Met.ofW (cc := cX10_next) (maxL := 3) (ret := (some .int)) (by decide) rfl ?_
  intro p e s m args below meth c s₁ B hml hv
  obtain ⟨rfl, hP, hK, hN⟩ := hv
  have hx := B.exec
  have hb := B.bytes
  have hr := B.returns
  have hts := atoms_spec (ws := uX10_next) B.pre
  have hown : s.vm.findClass RX10 = some m.cls := findClass_of_methodNamed B.named
  have hlocks := B.notSynchronized
  have hl := lv_entry ([.ref h0, .int a1, .int a2]) (n := 3) (Nat.le_of_ble_eq_true rfl)
  rw [lg_entry_eq]
  generalize (lg_sl ([.ref h0, .int a1, .int a2]) ++ List.replicate (3 - (lg_sl ([.ref h0, .int a1, .int a2])).length) Slot.unset).toArray = ls at hl ⊢
  have hl : lv_has ls 3 [(0, .ref h0), (1, .int a1), (2, .int a2)] := hl
  refine lv_aload_n hx hb dX10_next_0 rfl (lv_at hl 0 rfl) ?_
  refine lv_iload_n hx hb dX10_next_1 rfl (lv_at hl 1 rfl) ?_
  refine lv_iload_n hx hb dX10_next_2 rfl (lv_at hl 2 rfl) ?_
  refine vp_callSi (W.runV (As := [.int a1, .int a2]) (rest := []) ⟨hx, hb, hml, hown, hts⟩ (kX10_isBoth l dC dI h0 m_world m_images m_hasImage m_luck m_tape m_five m_fresh m_waits m_figures m_pile m_times m_far m_queue m_months m_ways m_waysOn m_many m_width m_numbers m_moving cI a1 a2) (cwV 2 hts gX10_next__X10_isBoth_V313 rfl rfl rfl (by decide +kernel) ⟨lel 3 3 rfl, lel 68 68 rfl⟩) ⟨pw_fb, va_recv hK hP (ci := 8) (q0 := 0) rfl rfl, (pw_use hP hK hN [0, 1] rfl [0] rfl)⟩ rfl rfl hl.1 rfl (lv_room (Nat.le_of_ble_eq_true rfl)) dX10_next_3 ⟨lel 0 0 rfl, lel 0 0 rfl⟩) (fun r_1 hr_1 => ?_)
  obtain rfl : r_1 = 0 := hr_1
  refine lv_if_eq (tgt := 20) hx hb dX10_next_6 (by decide) (fun _ => ?_) (fun c_2 => absurd c_2 (by decide))
  refine lv_bipush (v := (-2)) hx hb dX10_next_20 (by decide) ?_
  exact W.iret (v := (-2)) hx hb hr (fun t ht hW => ⟨(-2), rfl, rfl, ht⟩) t_nil dX10_next_22
theorem dX10_last_0 : decode cX10_last 0 = .ok (.aload_n 0, 1) := by decide +kernel
theorem dX10_last_1 : decode cX10_last 1 = .ok (.iload_n 1, 1) := by decide +kernel
theorem dX10_last_2 : decode cX10_last 2 = .ok (.iload_n 2, 1) := by decide +kernel
theorem dX10_last_3 : decode cX10_last 3 = .ok (.invokevirtual 313, 3) := by decide +kernel
theorem dX10_last_6 : decode cX10_last 6 = .ok (.ifCond .eq 14, 3) := by decide +kernel
theorem dX10_last_20 : decode cX10_last 20 = .ok (.bipush (-2), 2) := by decide +kernel
theorem dX10_last_22 : decode cX10_last 22 = .ok (.ireturn, 1) := by decide +kernel
def uX10_last : List Cond := .code yX10_last cX10_last 3 (some .int) :: ([.methodLink RX10 313 yX10_isBoth, .instanceMethod yX10_isBoth, .selects RX10 yX10_isBoth yX10_isBoth, .initialized RX10, .code yX10_isBoth cX10_isBoth 3 (some .boolean), .methodLink RX10 89 yX10_isLaw, .instanceMethod yX10_isLaw, .selects RX10 yX10_isLaw yX10_isLaw, .code yX10_isLaw cX10_isLaw 2 (some .boolean), .fieldLink RX10 9 "LuckyTicketModel" "world" "[I", .methodLink RX10 82 yX10_in, .static yX10_in, .code yX10_in cX10_in 6 (some .boolean)] ++ wsX100)
theorem iX10_last_X10 : ∀ w ∈ wsX100, w ∈ uX10_last := fun _ h => List.mem_cons_of_mem _ (List.mem_append_right _ h)
set_option maxRecDepth 20000 in
theorem gX10_last__X10_isBoth_V313 : GoodIn uX10_last (wsV RX10 313 RX10 yX10_isBoth uX10_isBoth) := goodIn_p _ [5, 9, 13] rfl (by decide +kernel)
set_option maxHeartbeats 4000000 in
set_option maxRecDepth 100000 in
theorem kX10_last (l : Launch) (dC : Nat → ClassId) (dI : Nat → Nat → Nat) (h0 : Nat) (m_world : Nat) (m_images : Nat) (m_hasImage : Nat) (m_luck : Nat) (m_tape : Nat) (m_five : Nat) (m_fresh : Nat) (m_waits : Nat) (m_figures : Nat) (m_pile : Nat) (m_times : Nat) (m_far : Nat) (m_queue : Nat) (m_months : Nat) (m_ways : Nat) (m_waysOn : Nat) (m_many : Nat) (m_width : Nat) (m_numbers : Nat) (m_moving : Nat) (cI : ClassId) (a1 : Int32) (a2 : Int32) : Met l yX10_last uX10_last ({ frames := 3, cells := 0, slots := 0, locals := 68 }) (va_Pc [.ref h0, .int a1, .int a2] (pw (dC, dI) vwCl [(h0, .inr (8, [.int 0, .ref m_world, .ref m_images, .ref m_hasImage, .ref m_luck, .ref m_tape, .int 0, .ref m_five, .int 0, .int 0, .int 0, .int 0, .int 0, .int 0, .int (-1), .ref m_fresh, .ref m_waits, .int 0, .int 0, .int 0, .ref m_figures, .ref m_pile, .long 0, .ref m_times, .ref m_far, .ref m_queue, .ref m_months, .ref m_ways, .ref m_waysOn, .ref m_many, .ref m_width, .ref m_numbers, .ref m_moving])), (m_world, .inl (cI, 1875, .inl (fun _ => 0)))] [(cI, .int)])) (vp_Si (fun r => r = (-2))) 0 0 (fun _ => False) := by
  refine Met.ofW (cc := cX10_last) (maxL := 3) (ret := (some .int)) (by decide) rfl ?_
  intro p e s m args below meth c s₁ B hml hv
  obtain ⟨rfl, hP, hK, hN⟩ := hv
  have hx := B.exec
  have hb := B.bytes
  have hr := B.returns
  have hts := atoms_spec (ws := uX10_last) B.pre
  have hown : s.vm.findClass RX10 = some m.cls := findClass_of_methodNamed B.named
  have hlocks := B.notSynchronized
  have hl := lv_entry ([.ref h0, .int a1, .int a2]) (n := 3) (Nat.le_of_ble_eq_true rfl)
  rw [lg_entry_eq]
  generalize (lg_sl ([.ref h0, .int a1, .int a2]) ++ List.replicate (3 - (lg_sl ([.ref h0, .int a1, .int a2])).length) Slot.unset).toArray = ls at hl ⊢
  have hl : lv_has ls 3 [(0, .ref h0), (1, .int a1), (2, .int a2)] := hl
  refine lv_aload_n hx hb dX10_last_0 rfl (lv_at hl 0 rfl) ?_
  refine lv_iload_n hx hb dX10_last_1 rfl (lv_at hl 1 rfl) ?_
  refine lv_iload_n hx hb dX10_last_2 rfl (lv_at hl 2 rfl) ?_
  refine vp_callSi (W.runV (As := [.int a1, .int a2]) (rest := []) ⟨hx, hb, hml, hown, hts⟩ (kX10_isBoth l dC dI h0 m_world m_images m_hasImage m_luck m_tape m_five m_fresh m_waits m_figures m_pile m_times m_far m_queue m_months m_ways m_waysOn m_many m_width m_numbers m_moving cI a1 a2) (cwV 2 hts gX10_last__X10_isBoth_V313 rfl rfl rfl (by decide +kernel) ⟨lel 3 3 rfl, lel 68 68 rfl⟩) ⟨pw_fb, va_recv hK hP (ci := 8) (q0 := 0) rfl rfl, (pw_use hP hK hN [0, 1] rfl [0] rfl)⟩ rfl rfl hl.1 rfl (lv_room (Nat.le_of_ble_eq_true rfl)) dX10_last_3 ⟨lel 0 0 rfl, lel 0 0 rfl⟩) (fun r_1 hr_1 => ?_)
  obtain rfl : r_1 = 0 := hr_1
  refine lv_if_eq (tgt := 20) hx hb dX10_last_6 (by decide) (fun _ => ?_) (fun c_2 => absurd c_2 (by decide))
  refine lv_bipush (v := (-2)) hx hb dX10_last_20 (by decide) ?_
  exact W.iret (v := (-2)) hx hb hr (fun t ht hW => ⟨(-2), rfl, rfl, ht⟩) t_nil dX10_last_22
theorem dX10_nth_0 : decode cX10_nth 0 = .ok (.aload_n 0, 1) := by decide +kernel
theorem dX10_nth_1 : decode cX10_nth 1 = .ok (.iload_n 1, 1) := by decide +kernel
theorem dX10_nth_2 : decode cX10_nth 2 = .ok (.invokevirtual 89, 3) := by decide +kernel
theorem dX10_nth_5 : decode cX10_nth 5 = .ok (.ifCond .eq 12, 3) := by decide +kernel
theorem dX10_nth_17 : decode cX10_nth 17 = .ok (.bipush (-2), 2) := by decide +kernel
theorem dX10_nth_19 : decode cX10_nth 19 = .ok (.ireturn, 1) := by decide +kernel
def uX10_nth : List Cond := .code yX10_nth cX10_nth 3 (some .int) :: ([.methodLink RX10 89 yX10_isLaw, .instanceMethod yX10_isLaw, .selects RX10 yX10_isLaw yX10_isLaw, .initialized RX10, .code yX10_isLaw cX10_isLaw 2 (some .boolean), .fieldLink RX10 9 "LuckyTicketModel" "world" "[I", .methodLink RX10 82 yX10_in, .static yX10_in, .code yX10_in cX10_in 6 (some .boolean)] ++ wsX100)
theorem iX10_nth_X10 : ∀ w ∈ wsX100, w ∈ uX10_nth := fun _ h => List.mem_cons_of_mem _ (List.mem_append_right _ h)
set_option maxRecDepth 20000 in
theorem gX10_nth__X10_isLaw_V89 : GoodIn uX10_nth (wsV RX10 89 RX10 yX10_isLaw uX10_isLaw) := goodIn_p _ [5, 9] rfl (by decide +kernel)
set_option maxHeartbeats 4000000 in
set_option maxRecDepth 100000 in
theorem kX10_nth (l : Launch) (dC : Nat → ClassId) (dI : Nat → Nat → Nat) (h0 : Nat) (m_world : Nat) (m_images : Nat) (m_hasImage : Nat) (m_luck : Nat) (m_tape : Nat) (m_five : Nat) (m_fresh : Nat) (m_waits : Nat) (m_figures : Nat) (m_pile : Nat) (m_times : Nat) (m_far : Nat) (m_queue : Nat) (m_months : Nat) (m_ways : Nat) (m_waysOn : Nat) (m_many : Nat) (m_width : Nat) (m_numbers : Nat) (m_moving : Nat) (cI : ClassId) (a1 : Int32) (a2 : Int32) : Met l yX10_nth uX10_nth ({ frames := 2, cells := 0, slots := 0, locals := 46 }) (va_Pc [.ref h0, .int a1, .int a2] (pw (dC, dI) vwCl [(h0, .inr (8, [.int 0, .ref m_world, .ref m_images, .ref m_hasImage, .ref m_luck, .ref m_tape, .int 0, .ref m_five, .int 0, .int 0, .int 0, .int 0, .int 0, .int 0, .int (-1), .ref m_fresh, .ref m_waits, .int 0, .int 0, .int 0, .ref m_figures, .ref m_pile, .long 0, .ref m_times, .ref m_far, .ref m_queue, .ref m_months, .ref m_ways, .ref m_waysOn, .ref m_many, .ref m_width, .ref m_numbers, .ref m_moving])), (m_world, .inl (cI, 1875, .inl (fun _ => 0)))] [(cI, .int)])) (vp_Si (fun r => r = (-2))) 0 0 (fun _ => False) := by
  refine Met.ofW (cc := cX10_nth) (maxL := 3) (ret := (some .int)) (by decide) rfl ?_
  intro p e s m args below meth c s₁ B hml hv
  obtain ⟨rfl, hP, hK, hN⟩ := hv
  have hx := B.exec
  have hb := B.bytes
  have hr := B.returns
  have hts := atoms_spec (ws := uX10_nth) B.pre
  have hown : s.vm.findClass RX10 = some m.cls := findClass_of_methodNamed B.named
  have hlocks := B.notSynchronized
  have hl := lv_entry ([.ref h0, .int a1, .int a2]) (n := 3) (Nat.le_of_ble_eq_true rfl)
  rw [lg_entry_eq]
  generalize (lg_sl ([.ref h0, .int a1, .int a2]) ++ List.replicate (3 - (lg_sl ([.ref h0, .int a1, .int a2])).length) Slot.unset).toArray = ls at hl ⊢
  have hl : lv_has ls 3 [(0, .ref h0), (1, .int a1), (2, .int a2)] := hl
  refine lv_aload_n hx hb dX10_nth_0 rfl (lv_at hl 0 rfl) ?_
  refine lv_iload_n hx hb dX10_nth_1 rfl (lv_at hl 1 rfl) ?_
  refine vp_callSi (W.runV (As := [.int a1]) (rest := []) ⟨hx, hb, hml, hown, hts⟩ (kX10_isLaw l dC dI h0 m_world m_images m_hasImage m_luck m_tape m_five m_fresh m_waits m_figures m_pile m_times m_far m_queue m_months m_ways m_waysOn m_many m_width m_numbers m_moving cI a1) (cwV 1 hts gX10_nth__X10_isLaw_V89 rfl rfl rfl (by decide +kernel) ⟨lel 2 2 rfl, lel 46 46 rfl⟩) ⟨pw_fb, va_recv hK hP (ci := 8) (q0 := 0) rfl rfl, (pw_use hP hK hN [0, 1] rfl [0] rfl)⟩ rfl rfl hl.1 rfl (lv_room (Nat.le_of_ble_eq_true rfl)) dX10_nth_2 ⟨lel 0 0 rfl, lel 0 0 rfl⟩) (fun r_1 hr_1 => ?_)
  obtain rfl : r_1 = 0 := hr_1
  refine lv_if_eq (tgt := 17) hx hb dX10_nth_5 (by decide) (fun _ => ?_) (fun c_2 => absurd c_2 (by decide))
  refine lv_bipush (v := (-2)) hx hb dX10_nth_17 (by decide) ?_
  exact W.iret (v := (-2)) hx hb hr (fun t ht hW => ⟨(-2), rfl, rfl, ht⟩) t_nil dX10_nth_19
theorem dX10_gap_0 : decode cX10_gap 0 = .ok (.aload_n 0, 1) := by decide +kernel
theorem dX10_gap_1 : decode cX10_gap 1 = .ok (.iload_n 1, 1) := by decide +kernel
theorem dX10_gap_2 : decode cX10_gap 2 = .ok (.invokevirtual 89, 3) := by decide +kernel
theorem dX10_gap_5 : decode cX10_gap 5 = .ok (.ifCond .eq 13, 3) := by decide +kernel
theorem dX10_gap_18 : decode cX10_gap 18 = .ok (.bipush (-2), 2) := by decide +kernel
theorem dX10_gap_20 : decode cX10_gap 20 = .ok (.ireturn, 1) := by decide +kernel
def uX10_gap : List Cond := .code yX10_gap cX10_gap 7 (some .int) :: ([.methodLink RX10 89 yX10_isLaw, .instanceMethod yX10_isLaw, .selects RX10 yX10_isLaw yX10_isLaw, .initialized RX10, .code yX10_isLaw cX10_isLaw 2 (some .boolean), .fieldLink RX10 9 "LuckyTicketModel" "world" "[I", .methodLink RX10 82 yX10_in, .static yX10_in, .code yX10_in cX10_in 6 (some .boolean)] ++ wsX100)
theorem iX10_gap_X10 : ∀ w ∈ wsX100, w ∈ uX10_gap := fun _ h => List.mem_cons_of_mem _ (List.mem_append_right _ h)
set_option maxRecDepth 20000 in
theorem gX10_gap__X10_isLaw_V89 : GoodIn uX10_gap (wsV RX10 89 RX10 yX10_isLaw uX10_isLaw) := goodIn_p _ [5, 9] rfl (by decide +kernel)
set_option maxHeartbeats 4000000 in
set_option maxRecDepth 100000 in
theorem kX10_gap (l : Launch) (dC : Nat → ClassId) (dI : Nat → Nat → Nat) (h0 : Nat) (m_world : Nat) (m_images : Nat) (m_hasImage : Nat) (m_luck : Nat) (m_tape : Nat) (m_five : Nat) (m_fresh : Nat) (m_waits : Nat) (m_figures : Nat) (m_pile : Nat) (m_times : Nat) (m_far : Nat) (m_queue : Nat) (m_months : Nat) (m_ways : Nat) (m_waysOn : Nat) (m_many : Nat) (m_width : Nat) (m_numbers : Nat) (m_moving : Nat) (cI : ClassId) (a1 : Int32) (a2 : Int32) : Met l yX10_gap uX10_gap ({ frames := 2, cells := 0, slots := 0, locals := 46 }) (va_Pc [.ref h0, .int a1, .int a2] (pw (dC, dI) vwCl [(h0, .inr (8, [.int 0, .ref m_world, .ref m_images, .ref m_hasImage, .ref m_luck, .ref m_tape, .int 0, .ref m_five, .int 0, .int 0, .int 0, .int 0, .int 0, .int 0, .int (-1), .ref m_fresh, .ref m_waits, .int 0, .int 0, .int 0, .ref m_figures, .ref m_pile, .long 0, .ref m_times, .ref m_far, .ref m_queue, .ref m_months, .ref m_ways, .ref m_waysOn, .ref m_many, .ref m_width, .ref m_numbers, .ref m_moving])), (m_world, .inl (cI, 1875, .inl (fun _ => 0)))] [(cI, .int)])) (vp_Si (fun r => r = (-2))) 0 0 (fun _ => False) := by
  refine Met.ofW (cc := cX10_gap) (maxL := 7) (ret := (some .int)) (by decide) rfl ?_
  intro p e s m args below meth c s₁ B hml hv
  obtain ⟨rfl, hP, hK, hN⟩ := hv
  have hx := B.exec
  have hb := B.bytes
  have hr := B.returns
  have hts := atoms_spec (ws := uX10_gap) B.pre
  have hown : s.vm.findClass RX10 = some m.cls := findClass_of_methodNamed B.named
  have hlocks := B.notSynchronized
  have hl := lv_entry ([.ref h0, .int a1, .int a2]) (n := 7) (Nat.le_of_ble_eq_true rfl)
  rw [lg_entry_eq]
  generalize (lg_sl ([.ref h0, .int a1, .int a2]) ++ List.replicate (7 - (lg_sl ([.ref h0, .int a1, .int a2])).length) Slot.unset).toArray = ls at hl ⊢
  have hl : lv_has ls 7 [(0, .ref h0), (1, .int a1), (2, .int a2)] := hl
  refine lv_aload_n hx hb dX10_gap_0 rfl (lv_at hl 0 rfl) ?_
  refine lv_iload_n hx hb dX10_gap_1 rfl (lv_at hl 1 rfl) ?_
  refine vp_callSi (W.runV (As := [.int a1]) (rest := []) ⟨hx, hb, hml, hown, hts⟩ (kX10_isLaw l dC dI h0 m_world m_images m_hasImage m_luck m_tape m_five m_fresh m_waits m_figures m_pile m_times m_far m_queue m_months m_ways m_waysOn m_many m_width m_numbers m_moving cI a1) (cwV 1 hts gX10_gap__X10_isLaw_V89 rfl rfl rfl (by decide +kernel) ⟨lel 2 2 rfl, lel 46 46 rfl⟩) ⟨pw_fb, va_recv hK hP (ci := 8) (q0 := 0) rfl rfl, (pw_use hP hK hN [0, 1] rfl [0] rfl)⟩ rfl rfl hl.1 rfl (lv_room (Nat.le_of_ble_eq_true rfl)) dX10_gap_2 ⟨lel 0 0 rfl, lel 0 0 rfl⟩) (fun r_1 hr_1 => ?_)
  obtain rfl : r_1 = 0 := hr_1
  refine lv_if_eq (tgt := 18) hx hb dX10_gap_5 (by decide) (fun _ => ?_) (fun c_2 => absurd c_2 (by decide))
  refine lv_bipush (v := (-2)) hx hb dX10_gap_18 (by decide) ?_
  exact W.iret (v := (-2)) hx hb hr (fun t ht hW => ⟨(-2), rfl, rfl, ht⟩) t_nil dX10_gap_20
theorem dX10_waits_0 : decode cX10_waits 0 = .ok (.aload_n 0, 1) := by decide +kernel
theorem dX10_waits_1 : decode cX10_waits 1 = .ok (.iload_n 1, 1) := by decide +kernel
theorem dX10_waits_2 : decode cX10_waits 2 = .ok (.iload_n 2, 1) := by decide +kernel
theorem dX10_waits_3 : decode cX10_waits 3 = .ok (.invokevirtual 313, 3) := by decide +kernel
theorem dX10_waits_6 : decode cX10_waits 6 = .ok (.ifCond .eq 10, 3) := by decide +kernel
theorem dX10_waits_16 : decode cX10_waits 16 = .ok (.bipush (-2), 2) := by decide +kernel
theorem dX10_waits_18 : decode cX10_waits 18 = .ok (.ireturn, 1) := by decide +kernel
def uX10_waits : List Cond := .code yX10_waits cX10_waits 6 (some .int) :: ([.methodLink RX10 313 yX10_isBoth, .instanceMethod yX10_isBoth, .selects RX10 yX10_isBoth yX10_isBoth, .initialized RX10, .code yX10_isBoth cX10_isBoth 3 (some .boolean), .methodLink RX10 89 yX10_isLaw, .instanceMethod yX10_isLaw, .selects RX10 yX10_isLaw yX10_isLaw, .code yX10_isLaw cX10_isLaw 2 (some .boolean), .fieldLink RX10 9 "LuckyTicketModel" "world" "[I", .methodLink RX10 82 yX10_in, .static yX10_in, .code yX10_in cX10_in 6 (some .boolean)] ++ wsX100)
theorem iX10_waits_X10 : ∀ w ∈ wsX100, w ∈ uX10_waits := fun _ h => List.mem_cons_of_mem _ (List.mem_append_right _ h)
set_option maxRecDepth 20000 in
theorem gX10_waits__X10_isBoth_V313 : GoodIn uX10_waits (wsV RX10 313 RX10 yX10_isBoth uX10_isBoth) := goodIn_p _ [5, 9, 13] rfl (by decide +kernel)
set_option maxHeartbeats 4000000 in
set_option maxRecDepth 100000 in
theorem kX10_waits (l : Launch) (dC : Nat → ClassId) (dI : Nat → Nat → Nat) (h0 : Nat) (m_world : Nat) (m_images : Nat) (m_hasImage : Nat) (m_luck : Nat) (m_tape : Nat) (m_five : Nat) (m_fresh : Nat) (m_waits : Nat) (m_figures : Nat) (m_pile : Nat) (m_times : Nat) (m_far : Nat) (m_queue : Nat) (m_months : Nat) (m_ways : Nat) (m_waysOn : Nat) (m_many : Nat) (m_width : Nat) (m_numbers : Nat) (m_moving : Nat) (cI : ClassId) (a1 : Int32) (a2 : Int32) (a3 : Int32) : Met l yX10_waits uX10_waits ({ frames := 3, cells := 0, slots := 0, locals := 68 }) (va_Pc [.ref h0, .int a1, .int a2, .int a3] (pw (dC, dI) vwCl [(h0, .inr (8, [.int 0, .ref m_world, .ref m_images, .ref m_hasImage, .ref m_luck, .ref m_tape, .int 0, .ref m_five, .int 0, .int 0, .int 0, .int 0, .int 0, .int 0, .int (-1), .ref m_fresh, .ref m_waits, .int 0, .int 0, .int 0, .ref m_figures, .ref m_pile, .long 0, .ref m_times, .ref m_far, .ref m_queue, .ref m_months, .ref m_ways, .ref m_waysOn, .ref m_many, .ref m_width, .ref m_numbers, .ref m_moving])), (m_world, .inl (cI, 1875, .inl (fun _ => 0)))] [(cI, .int)])) (vp_Si (fun r => r = (-2))) 0 0 (fun _ => False) := by
  refine Met.ofW (cc := cX10_waits) (maxL := 6) (ret := (some .int)) (by decide) rfl ?_
  intro p e s m args below meth c s₁ B hml hv
  obtain ⟨rfl, hP, hK, hN⟩ := hv
  have hx := B.exec
  have hb := B.bytes
  have hr := B.returns
  have hts := atoms_spec (ws := uX10_waits) B.pre
  have hown : s.vm.findClass RX10 = some m.cls := findClass_of_methodNamed B.named
  have hlocks := B.notSynchronized
  have hl := lv_entry ([.ref h0, .int a1, .int a2, .int a3]) (n := 6) (Nat.le_of_ble_eq_true rfl)
  rw [lg_entry_eq]
  generalize (lg_sl ([.ref h0, .int a1, .int a2, .int a3]) ++ List.replicate (6 - (lg_sl ([.ref h0, .int a1, .int a2, .int a3])).length) Slot.unset).toArray = ls at hl ⊢
  have hl : lv_has ls 6 [(0, .ref h0), (1, .int a1), (2, .int a2), (3, .int a3)] := hl
  refine lv_aload_n hx hb dX10_waits_0 rfl (lv_at hl 0 rfl) ?_
  refine lv_iload_n hx hb dX10_waits_1 rfl (lv_at hl 1 rfl) ?_
  refine lv_iload_n hx hb dX10_waits_2 rfl (lv_at hl 2 rfl) ?_
  refine vp_callSi (W.runV (As := [.int a1, .int a2]) (rest := []) ⟨hx, hb, hml, hown, hts⟩ (kX10_isBoth l dC dI h0 m_world m_images m_hasImage m_luck m_tape m_five m_fresh m_waits m_figures m_pile m_times m_far m_queue m_months m_ways m_waysOn m_many m_width m_numbers m_moving cI a1 a2) (cwV 2 hts gX10_waits__X10_isBoth_V313 rfl rfl rfl (by decide +kernel) ⟨lel 3 3 rfl, lel 68 68 rfl⟩) ⟨pw_fb, va_recv hK hP (ci := 8) (q0 := 0) rfl rfl, (pw_use hP hK hN [0, 1] rfl [0] rfl)⟩ rfl rfl hl.1 rfl (lv_room (Nat.le_of_ble_eq_true rfl)) dX10_waits_3 ⟨lel 0 0 rfl, lel 0 0 rfl⟩) (fun r_1 hr_1 => ?_)
  obtain rfl : r_1 = 0 := hr_1
  refine lv_if_eq (tgt := 16) hx hb dX10_waits_6 (by decide) (fun _ => ?_) (fun c_2 => absurd c_2 (by decide))
  refine lv_bipush (v := (-2)) hx hb dX10_waits_16 (by decide) ?_
  exact W.iret (v := (-2)) hx hb hr (fun t ht hW => ⟨(-2), rfl, rfl, ht⟩) t_nil dX10_waits_18
theorem dX10_hits_0 : decode cX10_hits 0 = .ok (.aload_n 0, 1) := by decide +kernel
theorem dX10_hits_1 : decode cX10_hits 1 = .ok (.iload_n 1, 1) := by decide +kernel
theorem dX10_hits_2 : decode cX10_hits 2 = .ok (.iload_n 2, 1) := by decide +kernel
theorem dX10_hits_3 : decode cX10_hits 3 = .ok (.invokevirtual 313, 3) := by decide +kernel
theorem dX10_hits_6 : decode cX10_hits 6 = .ok (.ifCond .eq 35, 3) := by decide +kernel
theorem dX10_hits_41 : decode cX10_hits 41 = .ok (.bipush (-2), 2) := by decide +kernel
theorem dX10_hits_43 : decode cX10_hits 43 = .ok (.ireturn, 1) := by decide +kernel
def uX10_hits : List Cond := .code yX10_hits cX10_hits 5 (some .int) :: ([.methodLink RX10 313 yX10_isBoth, .instanceMethod yX10_isBoth, .selects RX10 yX10_isBoth yX10_isBoth, .initialized RX10, .code yX10_isBoth cX10_isBoth 3 (some .boolean), .methodLink RX10 89 yX10_isLaw, .instanceMethod yX10_isLaw, .selects RX10 yX10_isLaw yX10_isLaw, .code yX10_isLaw cX10_isLaw 2 (some .boolean), .fieldLink RX10 9 "LuckyTicketModel" "world" "[I", .methodLink RX10 82 yX10_in, .static yX10_in, .code yX10_in cX10_in 6 (some .boolean)] ++ wsX100)
theorem iX10_hits_X10 : ∀ w ∈ wsX100, w ∈ uX10_hits := fun _ h => List.mem_cons_of_mem _ (List.mem_append_right _ h)
set_option maxRecDepth 20000 in
theorem gX10_hits__X10_isBoth_V313 : GoodIn uX10_hits (wsV RX10 313 RX10 yX10_isBoth uX10_isBoth) := goodIn_p _ [5, 9, 13] rfl (by decide +kernel)
set_option maxHeartbeats 4000000 in
set_option maxRecDepth 100000 in
theorem kX10_hits (l : Launch) (dC : Nat → ClassId) (dI : Nat → Nat → Nat) (h0 : Nat) (m_world : Nat) (m_images : Nat) (m_hasImage : Nat) (m_luck : Nat) (m_tape : Nat) (m_five : Nat) (m_fresh : Nat) (m_waits : Nat) (m_figures : Nat) (m_pile : Nat) (m_times : Nat) (m_far : Nat) (m_queue : Nat) (m_months : Nat) (m_ways : Nat) (m_waysOn : Nat) (m_many : Nat) (m_width : Nat) (m_numbers : Nat) (m_moving : Nat) (cI : ClassId) (a1 : Int32) (a2 : Int32) (a3 : Int32) (a4 : Int32) : Met l yX10_hits uX10_hits ({ frames := 3, cells := 0, slots := 0, locals := 68 }) (va_Pc [.ref h0, .int a1, .int a2, .int a3, .int a4] (pw (dC, dI) vwCl [(h0, .inr (8, [.int 0, .ref m_world, .ref m_images, .ref m_hasImage, .ref m_luck, .ref m_tape, .int 0, .ref m_five, .int 0, .int 0, .int 0, .int 0, .int 0, .int 0, .int (-1), .ref m_fresh, .ref m_waits, .int 0, .int 0, .int 0, .ref m_figures, .ref m_pile, .long 0, .ref m_times, .ref m_far, .ref m_queue, .ref m_months, .ref m_ways, .ref m_waysOn, .ref m_many, .ref m_width, .ref m_numbers, .ref m_moving])), (m_world, .inl (cI, 1875, .inl (fun _ => 0)))] [(cI, .int)])) (vp_Si (fun r => r = (-2))) 0 0 (fun _ => False) := by
  refine Met.ofW (cc := cX10_hits) (maxL := 5) (ret := (some .int)) (by decide) rfl ?_
  intro p e s m args below meth c s₁ B hml hv
  obtain ⟨rfl, hP, hK, hN⟩ := hv
  have hx := B.exec
  have hb := B.bytes
  have hr := B.returns
  have hts := atoms_spec (ws := uX10_hits) B.pre
  have hown : s.vm.findClass RX10 = some m.cls := findClass_of_methodNamed B.named
  have hlocks := B.notSynchronized
  have hl := lv_entry ([.ref h0, .int a1, .int a2, .int a3, .int a4]) (n := 5) (Nat.le_of_ble_eq_true rfl)
  rw [lg_entry_eq]
  generalize (lg_sl ([.ref h0, .int a1, .int a2, .int a3, .int a4]) ++ List.replicate (5 - (lg_sl ([.ref h0, .int a1, .int a2, .int a3, .int a4])).length) Slot.unset).toArray = ls at hl ⊢
  have hl : lv_has ls 5 [(0, .ref h0), (1, .int a1), (2, .int a2), (3, .int a3), (4, .int a4)] := hl
  refine lv_aload_n hx hb dX10_hits_0 rfl (lv_at hl 0 rfl) ?_
  refine lv_iload_n hx hb dX10_hits_1 rfl (lv_at hl 1 rfl) ?_
  refine lv_iload_n hx hb dX10_hits_2 rfl (lv_at hl 2 rfl) ?_
  refine vp_callSi (W.runV (As := [.int a1, .int a2]) (rest := []) ⟨hx, hb, hml, hown, hts⟩ (kX10_isBoth l dC dI h0 m_world m_images m_hasImage m_luck m_tape m_five m_fresh m_waits m_figures m_pile m_times m_far m_queue m_months m_ways m_waysOn m_many m_width m_numbers m_moving cI a1 a2) (cwV 2 hts gX10_hits__X10_isBoth_V313 rfl rfl rfl (by decide +kernel) ⟨lel 3 3 rfl, lel 68 68 rfl⟩) ⟨pw_fb, va_recv hK hP (ci := 8) (q0 := 0) rfl rfl, (pw_use hP hK hN [0, 1] rfl [0] rfl)⟩ rfl rfl hl.1 rfl (lv_room (Nat.le_of_ble_eq_true rfl)) dX10_hits_3 ⟨lel 0 0 rfl, lel 0 0 rfl⟩) (fun r_1 hr_1 => ?_)
  obtain rfl : r_1 = 0 := hr_1
  refine lv_if_eq (tgt := 41) hx hb dX10_hits_6 (by decide) (fun _ => ?_) (fun c_2 => absurd c_2 (by decide))
  refine lv_bipush (v := (-2)) hx hb dX10_hits_41 (by decide) ?_
  exact W.iret (v := (-2)) hx hb hr (fun t ht hW => ⟨(-2), rfl, rfl, ht⟩) t_nil dX10_hits_43
theorem dX10_steps_0 : decode cX10_steps 0 = .ok (.aload_n 0, 1) := by decide +kernel
theorem dX10_steps_1 : decode cX10_steps 1 = .ok (.iload_n 1, 1) := by decide +kernel
theorem dX10_steps_2 : decode cX10_steps 2 = .ok (.iload_n 2, 1) := by decide +kernel
theorem dX10_steps_3 : decode cX10_steps 3 = .ok (.invokevirtual 313, 3) := by decide +kernel
theorem dX10_steps_6 : decode cX10_steps 6 = .ok (.ifCond .eq 26, 3) := by decide +kernel
theorem dX10_steps_32 : decode cX10_steps 32 = .ok (.bipush (-2), 2) := by decide +kernel
theorem dX10_steps_34 : decode cX10_steps 34 = .ok (.ireturn, 1) := by decide +kernel
def uX10_steps : List Cond := .code yX10_steps cX10_steps 9 (some .int) :: ([.methodLink RX10 313 yX10_isBoth, .instanceMethod yX10_isBoth, .selects RX10 yX10_isBoth yX10_isBoth, .initialized RX10, .code yX10_isBoth cX10_isBoth 3 (some .boolean), .methodLink RX10 89 yX10_isLaw, .instanceMethod yX10_isLaw, .selects RX10 yX10_isLaw yX10_isLaw, .code yX10_isLaw cX10_isLaw 2 (some .boolean), .fieldLink RX10 9 "LuckyTicketModel" "world" "[I", .methodLink RX10 82 yX10_in, .static yX10_in, .code yX10_in cX10_in 6 (some .boolean)] ++ wsX100)
theorem iX10_steps_X10 : ∀ w ∈ wsX100, w ∈ uX10_steps := fun _ h => List.mem_cons_of_mem _ (List.mem_append_right _ h)
set_option maxRecDepth 20000 in
theorem gX10_steps__X10_isBoth_V313 : GoodIn uX10_steps (wsV RX10 313 RX10 yX10_isBoth uX10_isBoth) := goodIn_p _ [5, 9, 13] rfl (by decide +kernel)
set_option maxHeartbeats 4000000 in
set_option maxRecDepth 100000 in
theorem kX10_steps (l : Launch) (dC : Nat → ClassId) (dI : Nat → Nat → Nat) (h0 : Nat) (m_world : Nat) (m_images : Nat) (m_hasImage : Nat) (m_luck : Nat) (m_tape : Nat) (m_five : Nat) (m_fresh : Nat) (m_waits : Nat) (m_figures : Nat) (m_pile : Nat) (m_times : Nat) (m_far : Nat) (m_queue : Nat) (m_months : Nat) (m_ways : Nat) (m_waysOn : Nat) (m_many : Nat) (m_width : Nat) (m_numbers : Nat) (m_moving : Nat) (cI : ClassId) (a1 : Int32) (a2 : Int32) (a3 : Int32) (a4 : Int32) : Met l yX10_steps uX10_steps ({ frames := 3, cells := 0, slots := 0, locals := 68 }) (va_Pc [.ref h0, .int a1, .int a2, .int a3, .int a4] (pw (dC, dI) vwCl [(h0, .inr (8, [.int 0, .ref m_world, .ref m_images, .ref m_hasImage, .ref m_luck, .ref m_tape, .int 0, .ref m_five, .int 0, .int 0, .int 0, .int 0, .int 0, .int 0, .int (-1), .ref m_fresh, .ref m_waits, .int 0, .int 0, .int 0, .ref m_figures, .ref m_pile, .long 0, .ref m_times, .ref m_far, .ref m_queue, .ref m_months, .ref m_ways, .ref m_waysOn, .ref m_many, .ref m_width, .ref m_numbers, .ref m_moving])), (m_world, .inl (cI, 1875, .inl (fun _ => 0)))] [(cI, .int)])) (vp_Si (fun r => r = (-2))) 0 0 (fun _ => False) := by
  refine Met.ofW (cc := cX10_steps) (maxL := 9) (ret := (some .int)) (by decide) rfl ?_
  intro p e s m args below meth c s₁ B hml hv
  obtain ⟨rfl, hP, hK, hN⟩ := hv
  have hx := B.exec
  have hb := B.bytes
  have hr := B.returns
  have hts := atoms_spec (ws := uX10_steps) B.pre
  have hown : s.vm.findClass RX10 = some m.cls := findClass_of_methodNamed B.named
  have hlocks := B.notSynchronized
  have hl := lv_entry ([.ref h0, .int a1, .int a2, .int a3, .int a4]) (n := 9) (Nat.le_of_ble_eq_true rfl)
  rw [lg_entry_eq]
  generalize (lg_sl ([.ref h0, .int a1, .int a2, .int a3, .int a4]) ++ List.replicate (9 - (lg_sl ([.ref h0, .int a1, .int a2, .int a3, .int a4])).length) Slot.unset).toArray = ls at hl ⊢
  have hl : lv_has ls 9 [(0, .ref h0), (1, .int a1), (2, .int a2), (3, .int a3), (4, .int a4)] := hl
  refine lv_aload_n hx hb dX10_steps_0 rfl (lv_at hl 0 rfl) ?_
  refine lv_iload_n hx hb dX10_steps_1 rfl (lv_at hl 1 rfl) ?_
  refine lv_iload_n hx hb dX10_steps_2 rfl (lv_at hl 2 rfl) ?_
  refine vp_callSi (W.runV (As := [.int a1, .int a2]) (rest := []) ⟨hx, hb, hml, hown, hts⟩ (kX10_isBoth l dC dI h0 m_world m_images m_hasImage m_luck m_tape m_five m_fresh m_waits m_figures m_pile m_times m_far m_queue m_months m_ways m_waysOn m_many m_width m_numbers m_moving cI a1 a2) (cwV 2 hts gX10_steps__X10_isBoth_V313 rfl rfl rfl (by decide +kernel) ⟨lel 3 3 rfl, lel 68 68 rfl⟩) ⟨pw_fb, va_recv hK hP (ci := 8) (q0 := 0) rfl rfl, (pw_use hP hK hN [0, 1] rfl [0] rfl)⟩ rfl rfl hl.1 rfl (lv_room (Nat.le_of_ble_eq_true rfl)) dX10_steps_3 ⟨lel 0 0 rfl, lel 0 0 rfl⟩) (fun r_1 hr_1 => ?_)
  obtain rfl : r_1 = 0 := hr_1
  refine lv_if_eq (tgt := 32) hx hb dX10_steps_6 (by decide) (fun _ => ?_) (fun c_2 => absurd c_2 (by decide))
  refine lv_bipush (v := (-2)) hx hb dX10_steps_32 (by decide) ?_
  exact W.iret (v := (-2)) hx hb hr (fun t ht hW => ⟨(-2), rfl, rfl, ht⟩) t_nil dX10_steps_34
theorem dX10_chance_0 : decode cX10_chance 0 = .ok (.aload_n 0, 1) := by decide +kernel
theorem dX10_chance_1 : decode cX10_chance 1 = .ok (.iload_n 1, 1) := by decide +kernel
theorem dX10_chance_2 : decode cX10_chance 2 = .ok (.invokevirtual 89, 3) := by decide +kernel
theorem dX10_chance_5 : decode cX10_chance 5 = .ok (.ifCond .eq 31, 3) := by decide +kernel
theorem dX10_chance_36 : decode cX10_chance 36 = .ok (.bipush (-2), 2) := by decide +kernel
theorem dX10_chance_38 : decode cX10_chance 38 = .ok (.ireturn, 1) := by decide +kernel
def uX10_chance : List Cond := .code yX10_chance cX10_chance 3 (some .int) :: ([.methodLink RX10 89 yX10_isLaw, .instanceMethod yX10_isLaw, .selects RX10 yX10_isLaw yX10_isLaw, .initialized RX10, .code yX10_isLaw cX10_isLaw 2 (some .boolean), .fieldLink RX10 9 "LuckyTicketModel" "world" "[I", .methodLink RX10 82 yX10_in, .static yX10_in, .code yX10_in cX10_in 6 (some .boolean)] ++ wsX100)
theorem iX10_chance_X10 : ∀ w ∈ wsX100, w ∈ uX10_chance := fun _ h => List.mem_cons_of_mem _ (List.mem_append_right _ h)
set_option maxRecDepth 20000 in
theorem gX10_chance__X10_isLaw_V89 : GoodIn uX10_chance (wsV RX10 89 RX10 yX10_isLaw uX10_isLaw) := goodIn_p _ [5, 9] rfl (by decide +kernel)
set_option maxHeartbeats 4000000 in
set_option maxRecDepth 100000 in
theorem kX10_chance (l : Launch) (dC : Nat → ClassId) (dI : Nat → Nat → Nat) (h0 : Nat) (m_world : Nat) (m_images : Nat) (m_hasImage : Nat) (m_luck : Nat) (m_tape : Nat) (m_five : Nat) (m_fresh : Nat) (m_waits : Nat) (m_figures : Nat) (m_pile : Nat) (m_times : Nat) (m_far : Nat) (m_queue : Nat) (m_months : Nat) (m_ways : Nat) (m_waysOn : Nat) (m_many : Nat) (m_width : Nat) (m_numbers : Nat) (m_moving : Nat) (cI : ClassId) (a1 : Int32) (a2 : Int32) : Met l yX10_chance uX10_chance ({ frames := 2, cells := 0, slots := 0, locals := 46 }) (va_Pc [.ref h0, .int a1, .int a2] (pw (dC, dI) vwCl [(h0, .inr (8, [.int 0, .ref m_world, .ref m_images, .ref m_hasImage, .ref m_luck, .ref m_tape, .int 0, .ref m_five, .int 0, .int 0, .int 0, .int 0, .int 0, .int 0, .int (-1), .ref m_fresh, .ref m_waits, .int 0, .int 0, .int 0, .ref m_figures, .ref m_pile, .long 0, .ref m_times, .ref m_far, .ref m_queue, .ref m_months, .ref m_ways, .ref m_waysOn, .ref m_many, .ref m_width, .ref m_numbers, .ref m_moving])), (m_world, .inl (cI, 1875, .inl (fun _ => 0)))] [(cI, .int)])) (vp_Si (fun r => r = (-2))) 0 0 (fun _ => False) := by
  refine Met.ofW (cc := cX10_chance) (maxL := 3) (ret := (some .int)) (by decide) rfl ?_
  intro p e s m args below meth c s₁ B hml hv
  obtain ⟨rfl, hP, hK, hN⟩ := hv
  have hx := B.exec
  have hb := B.bytes
  have hr := B.returns
  have hts := atoms_spec (ws := uX10_chance) B.pre
  have hown : s.vm.findClass RX10 = some m.cls := findClass_of_methodNamed B.named
  have hlocks := B.notSynchronized
  have hl := lv_entry ([.ref h0, .int a1, .int a2]) (n := 3) (Nat.le_of_ble_eq_true rfl)
  rw [lg_entry_eq]
  generalize (lg_sl ([.ref h0, .int a1, .int a2]) ++ List.replicate (3 - (lg_sl ([.ref h0, .int a1, .int a2])).length) Slot.unset).toArray = ls at hl ⊢
  have hl : lv_has ls 3 [(0, .ref h0), (1, .int a1), (2, .int a2)] := hl
  refine lv_aload_n hx hb dX10_chance_0 rfl (lv_at hl 0 rfl) ?_
  refine lv_iload_n hx hb dX10_chance_1 rfl (lv_at hl 1 rfl) ?_
  refine vp_callSi (W.runV (As := [.int a1]) (rest := []) ⟨hx, hb, hml, hown, hts⟩ (kX10_isLaw l dC dI h0 m_world m_images m_hasImage m_luck m_tape m_five m_fresh m_waits m_figures m_pile m_times m_far m_queue m_months m_ways m_waysOn m_many m_width m_numbers m_moving cI a1) (cwV 1 hts gX10_chance__X10_isLaw_V89 rfl rfl rfl (by decide +kernel) ⟨lel 2 2 rfl, lel 46 46 rfl⟩) ⟨pw_fb, va_recv hK hP (ci := 8) (q0 := 0) rfl rfl, (pw_use hP hK hN [0, 1] rfl [0] rfl)⟩ rfl rfl hl.1 rfl (lv_room (Nat.le_of_ble_eq_true rfl)) dX10_chance_2 ⟨lel 0 0 rfl, lel 0 0 rfl⟩) (fun r_1 hr_1 => ?_)
  obtain rfl : r_1 = 0 := hr_1
  refine lv_if_eq (tgt := 36) hx hb dX10_chance_5 (by decide) (fun _ => ?_) (fun c_2 => absurd c_2 (by decide))
  refine lv_bipush (v := (-2)) hx hb dX10_chance_36 (by decide) ?_
  exact W.iret (v := (-2)) hx hb hr (fun t ht hW => ⟨(-2), rfl, rfl, ht⟩) t_nil dX10_chance_38
theorem dX10_share_0 : decode cX10_share 0 = .ok (.aload_n 0, 1) := by decide +kernel
theorem dX10_share_1 : decode cX10_share 1 = .ok (.iload_n 1, 1) := by decide +kernel
theorem dX10_share_2 : decode cX10_share 2 = .ok (.invokevirtual 89, 3) := by decide +kernel
theorem dX10_share_5 : decode cX10_share 5 = .ok (.ifCond .eq 13, 3) := by decide +kernel
theorem dX10_share_18 : decode cX10_share 18 = .ok (.bipush (-2), 2) := by decide +kernel
theorem dX10_share_20 : decode cX10_share 20 = .ok (.ireturn, 1) := by decide +kernel
def uX10_share : List Cond := .code yX10_share cX10_share 4 (some .int) :: ([.methodLink RX10 89 yX10_isLaw, .instanceMethod yX10_isLaw, .selects RX10 yX10_isLaw yX10_isLaw, .initialized RX10, .code yX10_isLaw cX10_isLaw 2 (some .boolean), .fieldLink RX10 9 "LuckyTicketModel" "world" "[I", .methodLink RX10 82 yX10_in, .static yX10_in, .code yX10_in cX10_in 6 (some .boolean)] ++ wsX100)
theorem iX10_share_X10 : ∀ w ∈ wsX100, w ∈ uX10_share := fun _ h => List.mem_cons_of_mem _ (List.mem_append_right _ h)
set_option maxRecDepth 20000 in
theorem gX10_share__X10_isLaw_V89 : GoodIn uX10_share (wsV RX10 89 RX10 yX10_isLaw uX10_isLaw) := goodIn_p _ [5, 9] rfl (by decide +kernel)
set_option maxHeartbeats 4000000 in
set_option maxRecDepth 100000 in
theorem kX10_share (l : Launch) (dC : Nat → ClassId) (dI : Nat → Nat → Nat) (h0 : Nat) (m_world : Nat) (m_images : Nat) (m_hasImage : Nat) (m_luck : Nat) (m_tape : Nat) (m_five : Nat) (m_fresh : Nat) (m_waits : Nat) (m_figures : Nat) (m_pile : Nat) (m_times : Nat) (m_far : Nat) (m_queue : Nat) (m_months : Nat) (m_ways : Nat) (m_waysOn : Nat) (m_many : Nat) (m_width : Nat) (m_numbers : Nat) (m_moving : Nat) (cI : ClassId) (a1 : Int32) (a2 : Int32) : Met l yX10_share uX10_share ({ frames := 2, cells := 0, slots := 0, locals := 46 }) (va_Pc [.ref h0, .int a1, .int a2] (pw (dC, dI) vwCl [(h0, .inr (8, [.int 0, .ref m_world, .ref m_images, .ref m_hasImage, .ref m_luck, .ref m_tape, .int 0, .ref m_five, .int 0, .int 0, .int 0, .int 0, .int 0, .int 0, .int (-1), .ref m_fresh, .ref m_waits, .int 0, .int 0, .int 0, .ref m_figures, .ref m_pile, .long 0, .ref m_times, .ref m_far, .ref m_queue, .ref m_months, .ref m_ways, .ref m_waysOn, .ref m_many, .ref m_width, .ref m_numbers, .ref m_moving])), (m_world, .inl (cI, 1875, .inl (fun _ => 0)))] [(cI, .int)])) (vp_Si (fun r => r = (-2))) 0 0 (fun _ => False) := by
  refine Met.ofW (cc := cX10_share) (maxL := 4) (ret := (some .int)) (by decide) rfl ?_
  intro p e s m args below meth c s₁ B hml hv
  obtain ⟨rfl, hP, hK, hN⟩ := hv
  have hx := B.exec
  have hb := B.bytes
  have hr := B.returns
  have hts := atoms_spec (ws := uX10_share) B.pre
  have hown : s.vm.findClass RX10 = some m.cls := findClass_of_methodNamed B.named
  have hlocks := B.notSynchronized
  have hl := lv_entry ([.ref h0, .int a1, .int a2]) (n := 4) (Nat.le_of_ble_eq_true rfl)
  rw [lg_entry_eq]
  generalize (lg_sl ([.ref h0, .int a1, .int a2]) ++ List.replicate (4 - (lg_sl ([.ref h0, .int a1, .int a2])).length) Slot.unset).toArray = ls at hl ⊢
  have hl : lv_has ls 4 [(0, .ref h0), (1, .int a1), (2, .int a2)] := hl
  refine lv_aload_n hx hb dX10_share_0 rfl (lv_at hl 0 rfl) ?_
  refine lv_iload_n hx hb dX10_share_1 rfl (lv_at hl 1 rfl) ?_
  refine vp_callSi (W.runV (As := [.int a1]) (rest := []) ⟨hx, hb, hml, hown, hts⟩ (kX10_isLaw l dC dI h0 m_world m_images m_hasImage m_luck m_tape m_five m_fresh m_waits m_figures m_pile m_times m_far m_queue m_months m_ways m_waysOn m_many m_width m_numbers m_moving cI a1) (cwV 1 hts gX10_share__X10_isLaw_V89 rfl rfl rfl (by decide +kernel) ⟨lel 2 2 rfl, lel 46 46 rfl⟩) ⟨pw_fb, va_recv hK hP (ci := 8) (q0 := 0) rfl rfl, (pw_use hP hK hN [0, 1] rfl [0] rfl)⟩ rfl rfl hl.1 rfl (lv_room (Nat.le_of_ble_eq_true rfl)) dX10_share_2 ⟨lel 0 0 rfl, lel 0 0 rfl⟩) (fun r_1 hr_1 => ?_)
  obtain rfl : r_1 = 0 := hr_1
  refine lv_if_eq (tgt := 18) hx hb dX10_share_5 (by decide) (fun _ => ?_) (fun c_2 => absurd c_2 (by decide))
  refine lv_bipush (v := (-2)) hx hb dX10_share_18 (by decide) ?_
  exact W.iret (v := (-2)) hx hb hr (fun t ht hW => ⟨(-2), rfl, rfl, ht⟩) t_nil dX10_share_20
theorem dX10_whose_0 : decode cX10_whose 0 = .ok (.aload_n 0, 1) := by decide +kernel
theorem dX10_whose_1 : decode cX10_whose 1 = .ok (.iload_n 1, 1) := by decide +kernel
theorem dX10_whose_2 : decode cX10_whose 2 = .ok (.iload_n 2, 1) := by decide +kernel
theorem dX10_whose_3 : decode cX10_whose 3 = .ok (.invokevirtual 313, 3) := by decide +kernel
theorem dX10_whose_6 : decode cX10_whose 6 = .ok (.ifCond .ne 6, 3) := by decide +kernel
theorem dX10_whose_9 : decode cX10_whose 9 = .ok (.bipush (-2), 2) := by decide +kernel
theorem dX10_whose_11 : decode cX10_whose 11 = .ok (.ireturn, 1) := by decide +kernel
def uX10_whose : List Cond := .code yX10_whose cX10_whose 4 (some .int) :: ([.methodLink RX10 313 yX10_isBoth, .instanceMethod yX10_isBoth, .selects RX10 yX10_isBoth yX10_isBoth, .initialized RX10, .code yX10_isBoth cX10_isBoth 3 (some .boolean), .methodLink RX10 89 yX10_isLaw, .instanceMethod yX10_isLaw, .selects RX10 yX10_isLaw yX10_isLaw, .code yX10_isLaw cX10_isLaw 2 (some .boolean), .fieldLink RX10 9 "LuckyTicketModel" "world" "[I", .methodLink RX10 82 yX10_in, .static yX10_in, .code yX10_in cX10_in 6 (some .boolean)] ++ wsX100)
theorem iX10_whose_X10 : ∀ w ∈ wsX100, w ∈ uX10_whose := fun _ h => List.mem_cons_of_mem _ (List.mem_append_right _ h)
set_option maxRecDepth 20000 in
theorem gX10_whose__X10_isBoth_V313 : GoodIn uX10_whose (wsV RX10 313 RX10 yX10_isBoth uX10_isBoth) := goodIn_p _ [5, 9, 13] rfl (by decide +kernel)
set_option maxHeartbeats 4000000 in
set_option maxRecDepth 100000 in
theorem kX10_whose (l : Launch) (dC : Nat → ClassId) (dI : Nat → Nat → Nat) (h0 : Nat) (m_world : Nat) (m_images : Nat) (m_hasImage : Nat) (m_luck : Nat) (m_tape : Nat) (m_five : Nat) (m_fresh : Nat) (m_waits : Nat) (m_figures : Nat) (m_pile : Nat) (m_times : Nat) (m_far : Nat) (m_queue : Nat) (m_months : Nat) (m_ways : Nat) (m_waysOn : Nat) (m_many : Nat) (m_width : Nat) (m_numbers : Nat) (m_moving : Nat) (cI : ClassId) (a1 : Int32) (a2 : Int32) : Met l yX10_whose uX10_whose ({ frames := 3, cells := 0, slots := 0, locals := 68 }) (va_Pc [.ref h0, .int a1, .int a2] (pw (dC, dI) vwCl [(h0, .inr (8, [.int 0, .ref m_world, .ref m_images, .ref m_hasImage, .ref m_luck, .ref m_tape, .int 0, .ref m_five, .int 0, .int 0, .int 0, .int 0, .int 0, .int 0, .int (-1), .ref m_fresh, .ref m_waits, .int 0, .int 0, .int 0, .ref m_figures, .ref m_pile, .long 0, .ref m_times, .ref m_far, .ref m_queue, .ref m_months, .ref m_ways, .ref m_waysOn, .ref m_many, .ref m_width, .ref m_numbers, .ref m_moving])), (m_world, .inl (cI, 1875, .inl (fun _ => 0)))] [(cI, .int)])) (vp_Si (fun r => r = (-2))) 0 0 (fun _ => False) := by
  refine Met.ofW (cc := cX10_whose) (maxL := 4) (ret := (some .int)) (by decide) rfl ?_
  intro p e s m args below meth c s₁ B hml hv
  obtain ⟨rfl, hP, hK, hN⟩ := hv
  have hx := B.exec
  have hb := B.bytes
  have hr := B.returns
  have hts := atoms_spec (ws := uX10_whose) B.pre
  have hown : s.vm.findClass RX10 = some m.cls := findClass_of_methodNamed B.named
  have hlocks := B.notSynchronized
  have hl := lv_entry ([.ref h0, .int a1, .int a2]) (n := 4) (Nat.le_of_ble_eq_true rfl)
  rw [lg_entry_eq]
  generalize (lg_sl ([.ref h0, .int a1, .int a2]) ++ List.replicate (4 - (lg_sl ([.ref h0, .int a1, .int a2])).length) Slot.unset).toArray = ls at hl ⊢
  have hl : lv_has ls 4 [(0, .ref h0), (1, .int a1), (2, .int a2)] := hl
  refine lv_aload_n hx hb dX10_whose_0 rfl (lv_at hl 0 rfl) ?_
  refine lv_iload_n hx hb dX10_whose_1 rfl (lv_at hl 1 rfl) ?_
  refine lv_iload_n hx hb dX10_whose_2 rfl (lv_at hl 2 rfl) ?_
  refine vp_callSi (W.runV (As := [.int a1, .int a2]) (rest := []) ⟨hx, hb, hml, hown, hts⟩ (kX10_isBoth l dC dI h0 m_world m_images m_hasImage m_luck m_tape m_five m_fresh m_waits m_figures m_pile m_times m_far m_queue m_months m_ways m_waysOn m_many m_width m_numbers m_moving cI a1 a2) (cwV 2 hts gX10_whose__X10_isBoth_V313 rfl rfl rfl (by decide +kernel) ⟨lel 3 3 rfl, lel 68 68 rfl⟩) ⟨pw_fb, va_recv hK hP (ci := 8) (q0 := 0) rfl rfl, (pw_use hP hK hN [0, 1] rfl [0] rfl)⟩ rfl rfl hl.1 rfl (lv_room (Nat.le_of_ble_eq_true rfl)) dX10_whose_3 ⟨lel 0 0 rfl, lel 0 0 rfl⟩) (fun r_1 hr_1 => ?_)
  obtain rfl : r_1 = 0 := hr_1
  refine lv_if_ne (tgt := 12) hx hb dX10_whose_6 (by decide) (fun c_2 => absurd c_2 (by decide)) (fun _ => ?_)
  refine lv_bipush (v := (-2)) hx hb dX10_whose_9 (by decide) ?_
  exact W.iret (v := (-2)) hx hb hr (fun t ht hW => ⟨(-2), rfl, rfl, ht⟩) t_nil dX10_whose_11
theorem dX10_both_0 : decode cX10_both 0 = .ok (.aload_n 0, 1) := by decide +kernel
theorem dX10_both_1 : decode cX10_both 1 = .ok (.iload_n 1, 1) := by decide +kernel
theorem dX10_both_2 : decode cX10_both 2 = .ok (.invokevirtual 358, 3) := by decide +kernel
theorem dX10_both_5 : decode cX10_both 5 = .ok (.ifCond .ne 6, 3) := by decide +kernel
theorem dX10_both_8 : decode cX10_both 8 = .ok (.bipush (-2), 2) := by decide +kernel
theorem dX10_both_10 : decode cX10_both 10 = .ok (.ireturn, 1) := by decide +kernel
def uX10_both : List Cond := .code yX10_both cX10_both 4 (some .int) :: ([.methodLink RX10 358 yX10_isSet, .instanceMethod yX10_isSet, .selects RX10 yX10_isSet yX10_isSet, .initialized RX10, .code yX10_isSet cX10_isSet 2 (some .boolean), .methodLink RX10 355 yX10_isRoll, .instanceMethod yX10_isRoll, .selects RX10 yX10_isRoll yX10_isRoll, .code yX10_isRoll cX10_isRoll 1 (some .boolean), .fieldLink RX10 9 "LuckyTicketModel" "world" "[I"] ++ wsX100)
theorem iX10_both_X10 : ∀ w ∈ wsX100, w ∈ uX10_both := fun _ h => List.mem_cons_of_mem _ (List.mem_append_right _ h)
set_option maxRecDepth 20000 in
theorem gX10_both__X10_isSet_V358 : GoodIn uX10_both (wsV RX10 358 RX10 yX10_isSet uX10_isSet) := goodIn_p _ [5, 9] rfl (by decide +kernel)
set_option maxHeartbeats 4000000 in
set_option maxRecDepth 100000 in
theorem kX10_both (l : Launch) (dC : Nat → ClassId) (dI : Nat → Nat → Nat) (h0 : Nat) (m_world : Nat) (m_images : Nat) (m_hasImage : Nat) (m_luck : Nat) (m_tape : Nat) (m_five : Nat) (m_fresh : Nat) (m_waits : Nat) (m_figures : Nat) (m_pile : Nat) (m_times : Nat) (m_far : Nat) (m_queue : Nat) (m_months : Nat) (m_ways : Nat) (m_waysOn : Nat) (m_many : Nat) (m_width : Nat) (m_numbers : Nat) (m_moving : Nat) (cI : ClassId) (a1 : Int32) : Met l yX10_both uX10_both ({ frames := 2, cells := 0, slots := 0, locals := 41 }) (va_Pc [.ref h0, .int a1] (pw (dC, dI) vwCl [(h0, .inr (8, [.int 0, .ref m_world, .ref m_images, .ref m_hasImage, .ref m_luck, .ref m_tape, .int 0, .ref m_five, .int 0, .int 0, .int 0, .int 0, .int 0, .int 0, .int (-1), .ref m_fresh, .ref m_waits, .int 0, .int 0, .int 0, .ref m_figures, .ref m_pile, .long 0, .ref m_times, .ref m_far, .ref m_queue, .ref m_months, .ref m_ways, .ref m_waysOn, .ref m_many, .ref m_width, .ref m_numbers, .ref m_moving])), (m_world, .inl (cI, 1875, .inl (fun _ => 0)))] [(cI, .int)])) (vp_Si (fun r => r = (-2))) 0 0 (fun _ => False) := by
  refine Met.ofW (cc := cX10_both) (maxL := 4) (ret := (some .int)) (by decide) rfl ?_
  intro p e s m args below meth c s₁ B hml hv
  obtain ⟨rfl, hP, hK, hN⟩ := hv
  have hx := B.exec
  have hb := B.bytes
  have hr := B.returns
  have hts := atoms_spec (ws := uX10_both) B.pre
  have hown : s.vm.findClass RX10 = some m.cls := findClass_of_methodNamed B.named
  have hlocks := B.notSynchronized
  have hl := lv_entry ([.ref h0, .int a1]) (n := 4) (Nat.le_of_ble_eq_true rfl)
  rw [lg_entry_eq]
  generalize (lg_sl ([.ref h0, .int a1]) ++ List.replicate (4 - (lg_sl ([.ref h0, .int a1])).length) Slot.unset).toArray = ls at hl ⊢
  have hl : lv_has ls 4 [(0, .ref h0), (1, .int a1)] := hl
  refine lv_aload_n hx hb dX10_both_0 rfl (lv_at hl 0 rfl) ?_
  refine lv_iload_n hx hb dX10_both_1 rfl (lv_at hl 1 rfl) ?_
  refine vp_callSi (W.runV (As := [.int a1]) (rest := []) ⟨hx, hb, hml, hown, hts⟩ (kX10_isSet l dC dI h0 m_world m_images m_hasImage m_luck m_tape m_five m_fresh m_waits m_figures m_pile m_times m_far m_queue m_months m_ways m_waysOn m_many m_width m_numbers m_moving cI a1) (cwV 1 hts gX10_both__X10_isSet_V358 rfl rfl rfl (by decide +kernel) ⟨lel 2 2 rfl, lel 41 41 rfl⟩) ⟨pw_fb, va_recv hK hP (ci := 8) (q0 := 0) rfl rfl, (pw_use hP hK hN [0, 1] rfl [0] rfl)⟩ rfl rfl hl.1 rfl (lv_room (Nat.le_of_ble_eq_true rfl)) dX10_both_2 ⟨lel 0 0 rfl, lel 0 0 rfl⟩) (fun r_1 hr_1 => ?_)
  obtain rfl : r_1 = 0 := hr_1
  refine lv_if_ne (tgt := 11) hx hb dX10_both_5 (by decide) (fun c_2 => absurd c_2 (by decide)) (fun _ => ?_)
  refine lv_bipush (v := (-2)) hx hb dX10_both_8 (by decide) ?_
  exact W.iret (v := (-2)) hx hb hr (fun t ht hW => ⟨(-2), rfl, rfl, ht⟩) t_nil dX10_both_10
theorem dX10_just_0 : decode cX10_just 0 = .ok (.aload_n 0, 1) := by decide +kernel
theorem dX10_just_1 : decode cX10_just 1 = .ok (.iload_n 1, 1) := by decide +kernel
theorem dX10_just_2 : decode cX10_just 2 = .ok (.invokevirtual 358, 3) := by decide +kernel
theorem dX10_just_5 : decode cX10_just 5 = .ok (.ifCond .ne 6, 3) := by decide +kernel
theorem dX10_just_8 : decode cX10_just 8 = .ok (.bipush (-2), 2) := by decide +kernel
theorem dX10_just_10 : decode cX10_just 10 = .ok (.ireturn, 1) := by decide +kernel
def uX10_just : List Cond := .code yX10_just cX10_just 4 (some .int) :: ([.methodLink RX10 358 yX10_isSet, .instanceMethod yX10_isSet, .selects RX10 yX10_isSet yX10_isSet, .initialized RX10, .code yX10_isSet cX10_isSet 2 (some .boolean), .methodLink RX10 355 yX10_isRoll, .instanceMethod yX10_isRoll, .selects RX10 yX10_isRoll yX10_isRoll, .code yX10_isRoll cX10_isRoll 1 (some .boolean), .fieldLink RX10 9 "LuckyTicketModel" "world" "[I"] ++ wsX100)
theorem iX10_just_X10 : ∀ w ∈ wsX100, w ∈ uX10_just := fun _ h => List.mem_cons_of_mem _ (List.mem_append_right _ h)
set_option maxRecDepth 20000 in
theorem gX10_just__X10_isSet_V358 : GoodIn uX10_just (wsV RX10 358 RX10 yX10_isSet uX10_isSet) := goodIn_p _ [5, 9] rfl (by decide +kernel)
set_option maxHeartbeats 4000000 in
set_option maxRecDepth 100000 in
theorem kX10_just (l : Launch) (dC : Nat → ClassId) (dI : Nat → Nat → Nat) (h0 : Nat) (m_world : Nat) (m_images : Nat) (m_hasImage : Nat) (m_luck : Nat) (m_tape : Nat) (m_five : Nat) (m_fresh : Nat) (m_waits : Nat) (m_figures : Nat) (m_pile : Nat) (m_times : Nat) (m_far : Nat) (m_queue : Nat) (m_months : Nat) (m_ways : Nat) (m_waysOn : Nat) (m_many : Nat) (m_width : Nat) (m_numbers : Nat) (m_moving : Nat) (cI : ClassId) (a1 : Int32) : Met l yX10_just uX10_just ({ frames := 2, cells := 0, slots := 0, locals := 41 }) (va_Pc [.ref h0, .int a1] (pw (dC, dI) vwCl [(h0, .inr (8, [.int 0, .ref m_world, .ref m_images, .ref m_hasImage, .ref m_luck, .ref m_tape, .int 0, .ref m_five, .int 0, .int 0, .int 0, .int 0, .int 0, .int 0, .int (-1), .ref m_fresh, .ref m_waits, .int 0, .int 0, .int 0, .ref m_figures, .ref m_pile, .long 0, .ref m_times, .ref m_far, .ref m_queue, .ref m_months, .ref m_ways, .ref m_waysOn, .ref m_many, .ref m_width, .ref m_numbers, .ref m_moving])), (m_world, .inl (cI, 1875, .inl (fun _ => 0)))] [(cI, .int)])) (vp_Si (fun r => r = (-2))) 0 0 (fun _ => False) := by
  refine Met.ofW (cc := cX10_just) (maxL := 4) (ret := (some .int)) (by decide) rfl ?_
  intro p e s m args below meth c s₁ B hml hv
  obtain ⟨rfl, hP, hK, hN⟩ := hv
  have hx := B.exec
  have hb := B.bytes
  have hr := B.returns
  have hts := atoms_spec (ws := uX10_just) B.pre
  have hown : s.vm.findClass RX10 = some m.cls := findClass_of_methodNamed B.named
  have hlocks := B.notSynchronized
  have hl := lv_entry ([.ref h0, .int a1]) (n := 4) (Nat.le_of_ble_eq_true rfl)
  rw [lg_entry_eq]
  generalize (lg_sl ([.ref h0, .int a1]) ++ List.replicate (4 - (lg_sl ([.ref h0, .int a1])).length) Slot.unset).toArray = ls at hl ⊢
  have hl : lv_has ls 4 [(0, .ref h0), (1, .int a1)] := hl
  refine lv_aload_n hx hb dX10_just_0 rfl (lv_at hl 0 rfl) ?_
  refine lv_iload_n hx hb dX10_just_1 rfl (lv_at hl 1 rfl) ?_
  refine vp_callSi (W.runV (As := [.int a1]) (rest := []) ⟨hx, hb, hml, hown, hts⟩ (kX10_isSet l dC dI h0 m_world m_images m_hasImage m_luck m_tape m_five m_fresh m_waits m_figures m_pile m_times m_far m_queue m_months m_ways m_waysOn m_many m_width m_numbers m_moving cI a1) (cwV 1 hts gX10_just__X10_isSet_V358 rfl rfl rfl (by decide +kernel) ⟨lel 2 2 rfl, lel 41 41 rfl⟩) ⟨pw_fb, va_recv hK hP (ci := 8) (q0 := 0) rfl rfl, (pw_use hP hK hN [0, 1] rfl [0] rfl)⟩ rfl rfl hl.1 rfl (lv_room (Nat.le_of_ble_eq_true rfl)) dX10_just_2 ⟨lel 0 0 rfl, lel 0 0 rfl⟩) (fun r_1 hr_1 => ?_)
  obtain rfl : r_1 = 0 := hr_1
  refine lv_if_ne (tgt := 11) hx hb dX10_just_5 (by decide) (fun c_2 => absurd c_2 (by decide)) (fun _ => ?_)
  refine lv_bipush (v := (-2)) hx hb dX10_just_8 (by decide) ?_
  exact W.iret (v := (-2)) hx hb hr (fun t ht hW => ⟨(-2), rfl, rfl, ht⟩) t_nil dX10_just_10
theorem dX10_so_0 : decode cX10_so 0 = .ok (.aload_n 0, 1) := by decide +kernel
theorem dX10_so_1 : decode cX10_so 1 = .ok (.invokevirtual 355, 3) := by decide +kernel
theorem dX10_so_4 : decode cX10_so 4 = .ok (.ifCond .eq 15, 3) := by decide +kernel
theorem dX10_so_19 : decode cX10_so 19 = .ok (.bipush (-2), 2) := by decide +kernel
theorem dX10_so_21 : decode cX10_so 21 = .ok (.ireturn, 1) := by decide +kernel
def uX10_so : List Cond := .code yX10_so cX10_so 4 (some .int) :: ([.methodLink RX10 355 yX10_isRoll, .instanceMethod yX10_isRoll, .selects RX10 yX10_isRoll yX10_isRoll, .initialized RX10, .code yX10_isRoll cX10_isRoll 1 (some .boolean), .fieldLink RX10 9 "LuckyTicketModel" "world" "[I"] ++ wsX100)
theorem iX10_so_X10 : ∀ w ∈ wsX100, w ∈ uX10_so := fun _ h => List.mem_cons_of_mem _ (List.mem_append_right _ h)
set_option maxRecDepth 20000 in
theorem gX10_so__X10_isRoll_V355 : GoodIn uX10_so (wsV RX10 355 RX10 yX10_isRoll uX10_isRoll) := goodIn_p _ [5] rfl (by decide +kernel)
set_option maxHeartbeats 4000000 in
set_option maxRecDepth 100000 in
theorem kX10_so (l : Launch) (dC : Nat → ClassId) (dI : Nat → Nat → Nat) (h0 : Nat) (m_world : Nat) (m_images : Nat) (m_hasImage : Nat) (m_luck : Nat) (m_tape : Nat) (m_five : Nat) (m_fresh : Nat) (m_waits : Nat) (m_figures : Nat) (m_pile : Nat) (m_times : Nat) (m_far : Nat) (m_queue : Nat) (m_months : Nat) (m_ways : Nat) (m_waysOn : Nat) (m_many : Nat) (m_width : Nat) (m_numbers : Nat) (m_moving : Nat) (cI : ClassId) (a1 : Int32) : Met l yX10_so uX10_so ({ frames := 1, cells := 0, slots := 0, locals := 20 }) (va_Pc [.ref h0, .int a1] (pw (dC, dI) vwCl [(h0, .inr (8, [.int 0, .ref m_world, .ref m_images, .ref m_hasImage, .ref m_luck, .ref m_tape, .int 0, .ref m_five, .int 0, .int 0, .int 0, .int 0, .int 0, .int 0, .int (-1), .ref m_fresh, .ref m_waits, .int 0, .int 0, .int 0, .ref m_figures, .ref m_pile, .long 0, .ref m_times, .ref m_far, .ref m_queue, .ref m_months, .ref m_ways, .ref m_waysOn, .ref m_many, .ref m_width, .ref m_numbers, .ref m_moving])), (m_world, .inl (cI, 1875, .inl (fun _ => 0)))] [(cI, .int)])) (vp_Si (fun r => r = (-2))) 0 0 (fun _ => False) := by
  refine Met.ofW (cc := cX10_so) (maxL := 4) (ret := (some .int)) (by decide) rfl ?_
  intro p e s m args below meth c s₁ B hml hv
  obtain ⟨rfl, hP, hK, hN⟩ := hv
  have hx := B.exec
  have hb := B.bytes
  have hr := B.returns
  have hts := atoms_spec (ws := uX10_so) B.pre
  have hown : s.vm.findClass RX10 = some m.cls := findClass_of_methodNamed B.named
  have hlocks := B.notSynchronized
  have hl := lv_entry ([.ref h0, .int a1]) (n := 4) (Nat.le_of_ble_eq_true rfl)
  rw [lg_entry_eq]
  generalize (lg_sl ([.ref h0, .int a1]) ++ List.replicate (4 - (lg_sl ([.ref h0, .int a1])).length) Slot.unset).toArray = ls at hl ⊢
  have hl : lv_has ls 4 [(0, .ref h0), (1, .int a1)] := hl
  refine lv_aload_n hx hb dX10_so_0 rfl (lv_at hl 0 rfl) ?_
  refine vp_callSi (W.runV (As := []) (rest := []) ⟨hx, hb, hml, hown, hts⟩ (kX10_isRoll l dC dI h0 m_world m_images m_hasImage m_luck m_tape m_five m_fresh m_waits m_figures m_pile m_times m_far m_queue m_months m_ways m_waysOn m_many m_width m_numbers m_moving cI) (cwV 0 hts gX10_so__X10_isRoll_V355 rfl rfl rfl (by decide +kernel) ⟨lel 1 1 rfl, lel 20 20 rfl⟩) ⟨pw_fb, va_recv hK hP (ci := 8) (q0 := 0) rfl rfl, (pw_use hP hK hN [0, 1] rfl [0] rfl)⟩ rfl rfl hl.1 rfl (lv_room (Nat.le_of_ble_eq_true rfl)) dX10_so_1 ⟨lel 0 0 rfl, lel 0 0 rfl⟩) (fun r_1 hr_1 => ?_)
  obtain rfl : r_1 = 0 := hr_1
  refine lv_if_eq (tgt := 19) hx hb dX10_so_4 (by decide) (fun _ => ?_) (fun c_2 => absurd c_2 (by decide))
  refine lv_bipush (v := (-2)) hx hb dX10_so_19 (by decide) ?_
  exact W.iret (v := (-2)) hx hb hr (fun t ht hW => ⟨(-2), rfl, rfl, ht⟩) t_nil dX10_so_21
theorem dX10_alike_0 : decode cX10_alike 0 = .ok (.aload_n 0, 1) := by decide +kernel
theorem dX10_alike_1 : decode cX10_alike 1 = .ok (.iload_n 1, 1) := by decide +kernel
theorem dX10_alike_2 : decode cX10_alike 2 = .ok (.invokevirtual 89, 3) := by decide +kernel
theorem dX10_alike_5 : decode cX10_alike 5 = .ok (.ifCond .eq 29, 3) := by decide +kernel
theorem dX10_alike_34 : decode cX10_alike 34 = .ok (.bipush (-2), 2) := by decide +kernel
theorem dX10_alike_36 : decode cX10_alike 36 = .ok (.ireturn, 1) := by decide +kernel
def uX10_alike : List Cond := .code yX10_alike cX10_alike 3 (some .int) :: ([.methodLink RX10 89 yX10_isLaw, .instanceMethod yX10_isLaw, .selects RX10 yX10_isLaw yX10_isLaw, .initialized RX10, .code yX10_isLaw cX10_isLaw 2 (some .boolean), .fieldLink RX10 9 "LuckyTicketModel" "world" "[I", .methodLink RX10 82 yX10_in, .static yX10_in, .code yX10_in cX10_in 6 (some .boolean)] ++ wsX100)
theorem iX10_alike_X10 : ∀ w ∈ wsX100, w ∈ uX10_alike := fun _ h => List.mem_cons_of_mem _ (List.mem_append_right _ h)
set_option maxRecDepth 20000 in
theorem gX10_alike__X10_isLaw_V89 : GoodIn uX10_alike (wsV RX10 89 RX10 yX10_isLaw uX10_isLaw) := goodIn_p _ [5, 9] rfl (by decide +kernel)
set_option maxHeartbeats 4000000 in
set_option maxRecDepth 100000 in
theorem kX10_alike (l : Launch) (dC : Nat → ClassId) (dI : Nat → Nat → Nat) (h0 : Nat) (m_world : Nat) (m_images : Nat) (m_hasImage : Nat) (m_luck : Nat) (m_tape : Nat) (m_five : Nat) (m_fresh : Nat) (m_waits : Nat) (m_figures : Nat) (m_pile : Nat) (m_times : Nat) (m_far : Nat) (m_queue : Nat) (m_months : Nat) (m_ways : Nat) (m_waysOn : Nat) (m_many : Nat) (m_width : Nat) (m_numbers : Nat) (m_moving : Nat) (cI : ClassId) (a1 : Int32) (a2 : Int32) : Met l yX10_alike uX10_alike ({ frames := 2, cells := 0, slots := 0, locals := 46 }) (va_Pc [.ref h0, .int a1, .int a2] (pw (dC, dI) vwCl [(h0, .inr (8, [.int 0, .ref m_world, .ref m_images, .ref m_hasImage, .ref m_luck, .ref m_tape, .int 0, .ref m_five, .int 0, .int 0, .int 0, .int 0, .int 0, .int 0, .int (-1), .ref m_fresh, .ref m_waits, .int 0, .int 0, .int 0, .ref m_figures, .ref m_pile, .long 0, .ref m_times, .ref m_far, .ref m_queue, .ref m_months, .ref m_ways, .ref m_waysOn, .ref m_many, .ref m_width, .ref m_numbers, .ref m_moving])), (m_world, .inl (cI, 1875, .inl (fun _ => 0)))] [(cI, .int)])) (vp_Si (fun r => r = (-2))) 0 0 (fun _ => False) := by
  refine Met.ofW (cc := cX10_alike) (maxL := 3) (ret := (some .int)) (by decide) rfl ?_
  intro p e s m args below meth c s₁ B hml hv
  obtain ⟨rfl, hP, hK, hN⟩ := hv
  have hx := B.exec
  have hb := B.bytes
  have hr := B.returns
  have hts := atoms_spec (ws := uX10_alike) B.pre
  have hown : s.vm.findClass RX10 = some m.cls := findClass_of_methodNamed B.named
  have hlocks := B.notSynchronized
  have hl := lv_entry ([.ref h0, .int a1, .int a2]) (n := 3) (Nat.le_of_ble_eq_true rfl)
  rw [lg_entry_eq]
  generalize (lg_sl ([.ref h0, .int a1, .int a2]) ++ List.replicate (3 - (lg_sl ([.ref h0, .int a1, .int a2])).length) Slot.unset).toArray = ls at hl ⊢
  have hl : lv_has ls 3 [(0, .ref h0), (1, .int a1), (2, .int a2)] := hl
  refine lv_aload_n hx hb dX10_alike_0 rfl (lv_at hl 0 rfl) ?_
  refine lv_iload_n hx hb dX10_alike_1 rfl (lv_at hl 1 rfl) ?_
  refine vp_callSi (W.runV (As := [.int a1]) (rest := []) ⟨hx, hb, hml, hown, hts⟩ (kX10_isLaw l dC dI h0 m_world m_images m_hasImage m_luck m_tape m_five m_fresh m_waits m_figures m_pile m_times m_far m_queue m_months m_ways m_waysOn m_many m_width m_numbers m_moving cI a1) (cwV 1 hts gX10_alike__X10_isLaw_V89 rfl rfl rfl (by decide +kernel) ⟨lel 2 2 rfl, lel 46 46 rfl⟩) ⟨pw_fb, va_recv hK hP (ci := 8) (q0 := 0) rfl rfl, (pw_use hP hK hN [0, 1] rfl [0] rfl)⟩ rfl rfl hl.1 rfl (lv_room (Nat.le_of_ble_eq_true rfl)) dX10_alike_2 ⟨lel 0 0 rfl, lel 0 0 rfl⟩) (fun r_1 hr_1 => ?_)
  obtain rfl : r_1 = 0 := hr_1
  refine lv_if_eq (tgt := 34) hx hb dX10_alike_5 (by decide) (fun _ => ?_) (fun c_2 => absurd c_2 (by decide))
  refine lv_bipush (v := (-2)) hx hb dX10_alike_34 (by decide) ?_
  exact W.iret (v := (-2)) hx hb hr (fun t ht hW => ⟨(-2), rfl, rfl, ht⟩) t_nil dX10_alike_36
theorem dX10_differ_0 : decode cX10_differ 0 = .ok (.aload_n 0, 1) := by decide +kernel
theorem dX10_differ_1 : decode cX10_differ 1 = .ok (.iload_n 1, 1) := by decide +kernel
theorem dX10_differ_2 : decode cX10_differ 2 = .ok (.invokevirtual 89, 3) := by decide +kernel
theorem dX10_differ_5 : decode cX10_differ 5 = .ok (.ifCond .eq 20, 3) := by decide +kernel
theorem dX10_differ_25 : decode cX10_differ 25 = .ok (.bipush (-2), 2) := by decide +kernel
theorem dX10_differ_27 : decode cX10_differ 27 = .ok (.ireturn, 1) := by decide +kernel
def uX10_differ : List Cond := .code yX10_differ cX10_differ 3 (some .int) :: ([.methodLink RX10 89 yX10_isLaw, .instanceMethod yX10_isLaw, .selects RX10 yX10_isLaw yX10_isLaw, .initialized RX10, .code yX10_isLaw cX10_isLaw 2 (some .boolean), .fieldLink RX10 9 "LuckyTicketModel" "world" "[I", .methodLink RX10 82 yX10_in, .static yX10_in, .code yX10_in cX10_in 6 (some .boolean)] ++ wsX100)
theorem iX10_differ_X10 : ∀ w ∈ wsX100, w ∈ uX10_differ := fun _ h => List.mem_cons_of_mem _ (List.mem_append_right _ h)
set_option maxRecDepth 20000 in
theorem gX10_differ__X10_isLaw_V89 : GoodIn uX10_differ (wsV RX10 89 RX10 yX10_isLaw uX10_isLaw) := goodIn_p _ [5, 9] rfl (by decide +kernel)
set_option maxHeartbeats 4000000 in
set_option maxRecDepth 100000 in
theorem kX10_differ (l : Launch) (dC : Nat → ClassId) (dI : Nat → Nat → Nat) (h0 : Nat) (m_world : Nat) (m_images : Nat) (m_hasImage : Nat) (m_luck : Nat) (m_tape : Nat) (m_five : Nat) (m_fresh : Nat) (m_waits : Nat) (m_figures : Nat) (m_pile : Nat) (m_times : Nat) (m_far : Nat) (m_queue : Nat) (m_months : Nat) (m_ways : Nat) (m_waysOn : Nat) (m_many : Nat) (m_width : Nat) (m_numbers : Nat) (m_moving : Nat) (cI : ClassId) (a1 : Int32) (a2 : Int32) : Met l yX10_differ uX10_differ ({ frames := 2, cells := 0, slots := 0, locals := 46 }) (va_Pc [.ref h0, .int a1, .int a2] (pw (dC, dI) vwCl [(h0, .inr (8, [.int 0, .ref m_world, .ref m_images, .ref m_hasImage, .ref m_luck, .ref m_tape, .int 0, .ref m_five, .int 0, .int 0, .int 0, .int 0, .int 0, .int 0, .int (-1), .ref m_fresh, .ref m_waits, .int 0, .int 0, .int 0, .ref m_figures, .ref m_pile, .long 0, .ref m_times, .ref m_far, .ref m_queue, .ref m_months, .ref m_ways, .ref m_waysOn, .ref m_many, .ref m_width, .ref m_numbers, .ref m_moving])), (m_world, .inl (cI, 1875, .inl (fun _ => 0)))] [(cI, .int)])) (vp_Si (fun r => r = (-2))) 0 0 (fun _ => False) := by
  refine Met.ofW (cc := cX10_differ) (maxL := 3) (ret := (some .int)) (by decide) rfl ?_
  intro p e s m args below meth c s₁ B hml hv
  obtain ⟨rfl, hP, hK, hN⟩ := hv
  have hx := B.exec
  have hb := B.bytes
  have hr := B.returns
  have hts := atoms_spec (ws := uX10_differ) B.pre
  have hown : s.vm.findClass RX10 = some m.cls := findClass_of_methodNamed B.named
  have hlocks := B.notSynchronized
  have hl := lv_entry ([.ref h0, .int a1, .int a2]) (n := 3) (Nat.le_of_ble_eq_true rfl)
  rw [lg_entry_eq]
  generalize (lg_sl ([.ref h0, .int a1, .int a2]) ++ List.replicate (3 - (lg_sl ([.ref h0, .int a1, .int a2])).length) Slot.unset).toArray = ls at hl ⊢
  have hl : lv_has ls 3 [(0, .ref h0), (1, .int a1), (2, .int a2)] := hl
  refine lv_aload_n hx hb dX10_differ_0 rfl (lv_at hl 0 rfl) ?_
  refine lv_iload_n hx hb dX10_differ_1 rfl (lv_at hl 1 rfl) ?_
  refine vp_callSi (W.runV (As := [.int a1]) (rest := []) ⟨hx, hb, hml, hown, hts⟩ (kX10_isLaw l dC dI h0 m_world m_images m_hasImage m_luck m_tape m_five m_fresh m_waits m_figures m_pile m_times m_far m_queue m_months m_ways m_waysOn m_many m_width m_numbers m_moving cI a1) (cwV 1 hts gX10_differ__X10_isLaw_V89 rfl rfl rfl (by decide +kernel) ⟨lel 2 2 rfl, lel 46 46 rfl⟩) ⟨pw_fb, va_recv hK hP (ci := 8) (q0 := 0) rfl rfl, (pw_use hP hK hN [0, 1] rfl [0] rfl)⟩ rfl rfl hl.1 rfl (lv_room (Nat.le_of_ble_eq_true rfl)) dX10_differ_2 ⟨lel 0 0 rfl, lel 0 0 rfl⟩) (fun r_1 hr_1 => ?_)
  obtain rfl : r_1 = 0 := hr_1
  refine lv_if_eq (tgt := 25) hx hb dX10_differ_5 (by decide) (fun _ => ?_) (fun c_2 => absurd c_2 (by decide))
  refine lv_bipush (v := (-2)) hx hb dX10_differ_25 (by decide) ?_
  exact W.iret (v := (-2)) hx hb hr (fun t ht hW => ⟨(-2), rfl, rfl, ht⟩) t_nil dX10_differ_27
