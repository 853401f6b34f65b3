theorem dX9_figure_0 : decode cX9_figure 0 = .ok (.aload_n 0, 1) := by decide +kernel
theorem dX9_figure_1 : decode cX9_figure 1 = .ok (.getfield 35, 3) := by decide +kernel
theorem dX9_figure_4 : decode cX9_figure 4 = .ok (.iload_n 1, 1) := by decide +kernel
theorem dX9_figure_5 : decode cX9_figure 5 = .ok (.invokevirtual 100, 3) := by decide +kernel
theorem dX9_figure_8 : decode cX9_figure 8 = .ok (.ifCond .eq 14, 3) := by decide +kernel
theorem dX9_figure_22 : decode cX9_figure 22 = .ok (.bipush (-2), 2) := by decide +kernel
theorem dX9_figure_24 : decode cX9_figure 24 = .ok (.ireturn, 1) := by decide +kernel
def uX9_figure : List Cond := .code yX9_figure cX9_figure 3 (some .int) :: ([.fieldLink RX9 35 "LuckyTicket" "current" "LLuckyTicket$Roll;", .methodLink RX9 100 yX2_hasTicket, .instanceMethod yX2_hasTicket, .selects RX2 yX2_hasTicket yX2_hasTicket, .initialized RX2, .code yX2_hasTicket cX2_hasTicket 2 (some .boolean), .fieldLink RX2 42 "LuckyTicket$Roll" "tickets" "I"] ++ wsX90 ++ wsX20)
theorem iX9_figure_X9 : ∀ w ∈ wsX90, w ∈ uX9_figure := fun _ h => List.mem_cons_of_mem _ (List.mem_append_left _ (List.mem_append_right _ h))
theorem iX9_figure_X2 : ∀ w ∈ wsX20, w ∈ uX9_figure := fun _ h => List.mem_cons_of_mem _ (List.mem_append_right _ h)
set_option maxRecDepth 20000 in
theorem gX9_figure__X2_hasTicket_V100 : GoodIn uX9_figure (wsV RX9 100 RX2 yX2_hasTicket uX2_hasTicket) := goodIn_p _ [6] rfl (by decide +kernel)
set_option maxHeartbeats 4000000 in
set_option maxRecDepth 100000 in
theorem kX9_figure (l : Launch) (dC : Nat → ClassId) (dI : Nat → Nat → Nat) (h0 : Nat) (tp : Nat) (sc : Nat) (rd : Nat) (cu : Nat) (im : Nat) (ig : Nat) (sl : Nat) (se : Nat) (su : Nat) (fc : Nat) (fa : Nat) (lu : Nat) (a1 : Int32) (a2 : Int32) : Met l yX9_figure uX9_figure ({ frames := 1, cells := 0, slots := 0, locals := 21 }) (va_Pc [.ref h0, .int a1, .int a2] (pw (dC, dI) vwCl [(h0, .inr (7, [.ref tp, .ref sc, .ref rd, .ref cu, .ref im, .ref ig, .ref sl, .ref se, .ref su, .ref fc])), (cu, .inr (1, [.int 0, .int 0, .int 0, .int 0, .int 0, .ref fa, .ref lu]))] [])) (vp_Si (fun r => r = (-2))) 0 0 (fun _ => False) := by
  refine Met.ofW (cc := cX9_figure) (maxL := 3) (ret := (some .int)) (by decide) rfl ?_
  intro p e s m args below meth c s₁ B hml hv
  obtain ⟨rfl, hP, hK, hN⟩ := hv
  have hx := B.exec
  have hb := B.bytes
  have hr := B.returns
  have hts := atoms_spec (ws := uX9_figure) B.pre
  have hown : s.vm.findClass RX9 = some m.cls := findClass_of_methodNamed B.named
  have hlocks := B.notSynchronized
  have hl := lv_entry ([.ref h0, .int a1, .int a2]) (n := 3) (Nat.le_of_ble_eq_true rfl)
  rw [lg_entry_eq]
  generalize (lg_sl ([.ref h0, .int a1, .int a2]) ++ List.replicate (3 - (lg_sl ([.ref h0, .int a1, .int a2])).length) Slot.unset).toArray = ls at hl ⊢
  have hl : lv_has ls 3 [(0, .ref h0), (1, .int a1), (2, .int a2)] := hl
  refine lv_aload_n hx hb dX9_figure_0 rfl (lv_at hl 0 rfl) ?_
  refine va_get (D := (dC, dI)) (ci := 7) (v := .ref cu) (C := RX9) (T := TX9) (N := 10) hx hb hts iX9_figure_X9 hown hK hP 0 rfl rfl 3 (by decide) (hts (.fieldLink RX9 35 "LuckyTicket" "current" "LLuckyTicket$Roll;") (List.mem_of_getElem? (i := 1) rfl)) (fun _ h9 => h9) rfl dX9_figure_1 ?_
  refine lv_iload_n hx hb dX9_figure_4 rfl (lv_at hl 1 rfl) ?_
  refine vp_callSi (W.runV (As := [.int a1]) (rest := []) ⟨hx, hb, hml, hown, hts⟩ (kX2_hasTicket l dC dI cu fa lu a1) (cwV 1 hts gX9_figure__X2_hasTicket_V100 rfl rfl rfl (by decide +kernel) ⟨lel 1 1 rfl, lel 21 21 rfl⟩) ⟨pw_fb, va_recv hK hP (ci := 1) (q0 := 1) rfl rfl, (pw_use hP hK hN [1] rfl [] rfl)⟩ rfl rfl hl.1 rfl (lv_room (Nat.le_of_ble_eq_true rfl)) dX9_figure_5 ⟨lel 0 0 rfl, lel 0 0 rfl⟩) (fun r_1 hr_1 => ?_)
  obtain rfl : r_1 = 0 := hr_1
  refine lv_if_eq (tgt := 22) hx hb dX9_figure_8 (by decide) (fun _ => ?_) (fun c_2 => absurd c_2 (by decide))
  refine lv_bipush (v := (-2)) hx hb dX9_figure_22 (by decide) ?_
  exact W.iret (v := (-2)) hx hb hr (fun t ht hW => ⟨(-2), rfl, rfl, ht⟩) t_nil dX9_figure_24
theorem dX9_sums_0 : decode cX9_sums 0 = .ok (.aload_n 0, 1) := by decide +kernel
theorem dX9_sums_1 : decode cX9_sums 1 = .ok (.getfield 35, 3) := by decide +kernel
theorem dX9_sums_4 : decode cX9_sums 4 = .ok (.iload_n 1, 1) := by decide +kernel
theorem dX9_sums_5 : decode cX9_sums 5 = .ok (.invokevirtual 100, 3) := by decide +kernel
theorem dX9_sums_8 : decode cX9_sums 8 = .ok (.ifCond .ne 6, 3) := by decide +kernel
theorem dX9_sums_11 : decode cX9_sums 11 = .ok (.bipush (-2), 2) := by decide +kernel
theorem dX9_sums_13 : decode cX9_sums 13 = .ok (.ireturn, 1) := by decide +kernel
def uX9_sums : List Cond := .code yX9_sums cX9_sums 6 (some .int) :: ([.fieldLink RX9 35 "LuckyTicket" "current" "LLuckyTicket$Roll;", .methodLink RX9 100 yX2_hasTicket, .instanceMethod yX2_hasTicket, .selects RX2 yX2_hasTicket yX2_hasTicket, .initialized RX2, .code yX2_hasTicket cX2_hasTicket 2 (some .boolean), .fieldLink RX2 42 "LuckyTicket$Roll" "tickets" "I"] ++ wsX90 ++ wsX20)
theorem iX9_sums_X9 : ∀ w ∈ wsX90, w ∈ uX9_sums := fun _ h => List.mem_cons_of_mem _ (List.mem_append_left _ (List.mem_append_right _ h))
theorem iX9_sums_X2 : ∀ w ∈ wsX20, w ∈ uX9_sums := fun _ h => List.mem_cons_of_mem _ (List.mem_append_right _ h)
set_option maxRecDepth 20000 in
theorem gX9_sums__X2_hasTicket_V100 : GoodIn uX9_sums (wsV RX9 100 RX2 yX2_hasTicket uX2_hasTicket) := goodIn_p _ [6] rfl (by decide +kernel)
set_option maxHeartbeats 4000000 in
set_option maxRecDepth 100000 in
theorem kX9_sums (l : Launch) (dC : Nat → ClassId) (dI : Nat → Nat → Nat) (h0 : Nat) (tp : Nat) (sc : Nat) (rd : Nat) (cu : Nat) (im : Nat) (ig : Nat) (sl : Nat) (se : Nat) (su : Nat) (fc : Nat) (fa : Nat) (lu : Nat) (a1 : Int32) (a2 : Int32) : Met l yX9_sums uX9_sums ({ frames := 1, cells := 0, slots := 0, locals := 21 }) (va_Pc [.ref h0, .int a1, .int a2] (pw (dC, dI) vwCl [(h0, .inr (7, [.ref tp, .ref sc, .ref rd, .ref cu, .ref im, .ref ig, .ref sl, .ref se, .ref su, .ref fc])), (cu, .inr (1, [.int 0, .int 0, .int 0, .int 0, .int 0, .ref fa, .ref lu]))] [])) (vp_Si (fun r => r = (-2))) 0 0 (fun _ => False) := by
  refine Met.ofW (cc := cX9_sums) (maxL := 6) (ret := (some .int)) (by decide) rfl ?_
  intro p e s m args below meth c s₁ B hml hv
  obtain ⟨rfl, hP, hK, hN⟩ := hv
  have hx := B.exec
  have hb := B.bytes
  have hr := B.returns
  have hts := atoms_spec (ws := uX9_sums) B.pre
  have hown : s.vm.findClass RX9 = some m.cls := findClass_of_methodNamed B.named
  have hlocks := B.notSynchronized
  have hl := lv_entry ([.ref h0, .int a1, .int a2]) (n := 6) (Nat.le_of_ble_eq_true rfl)
  rw [lg_entry_eq]
  generalize (lg_sl ([.ref h0, .int a1, .int a2]) ++ List.replicate (6 - (lg_sl ([.ref h0, .int a1, .int a2])).length) Slot.unset).toArray = ls at hl ⊢
  have hl : lv_has ls 6 [(0, .ref h0), (1, .int a1), (2, .int a2)] := hl
  refine lv_aload_n hx hb dX9_sums_0 rfl (lv_at hl 0 rfl) ?_
  refine va_get (D := (dC, dI)) (ci := 7) (v := .ref cu) (C := RX9) (T := TX9) (N := 10) hx hb hts iX9_sums_X9 hown hK hP 0 rfl rfl 3 (by decide) (hts (.fieldLink RX9 35 "LuckyTicket" "current" "LLuckyTicket$Roll;") (List.mem_of_getElem? (i := 1) rfl)) (fun _ h9 => h9) rfl dX9_sums_1 ?_
  refine lv_iload_n hx hb dX9_sums_4 rfl (lv_at hl 1 rfl) ?_
  refine vp_callSi (W.runV (As := [.int a1]) (rest := []) ⟨hx, hb, hml, hown, hts⟩ (kX2_hasTicket l dC dI cu fa lu a1) (cwV 1 hts gX9_sums__X2_hasTicket_V100 rfl rfl rfl (by decide +kernel) ⟨lel 1 1 rfl, lel 21 21 rfl⟩) ⟨pw_fb, va_recv hK hP (ci := 1) (q0 := 1) rfl rfl, (pw_use hP hK hN [1] rfl [] rfl)⟩ rfl rfl hl.1 rfl (lv_room (Nat.le_of_ble_eq_true rfl)) dX9_sums_5 ⟨lel 0 0 rfl, lel 0 0 rfl⟩) (fun r_1 hr_1 => ?_)
  obtain rfl : r_1 = 0 := hr_1
  refine lv_if_ne (tgt := 14) hx hb dX9_sums_8 (by decide) (fun c_2 => absurd c_2 (by decide)) (fun _ => ?_)
  refine lv_bipush (v := (-2)) hx hb dX9_sums_11 (by decide) ?_
  exact W.iret (v := (-2)) hx hb hr (fun t ht hW => ⟨(-2), rfl, rfl, ht⟩) t_nil dX9_sums_13
theorem dX9_lucky_0 : decode cX9_lucky 0 = .ok (.aload_n 0, 1) := by decide +kernel
theorem dX9_lucky_1 : decode cX9_lucky 1 = .ok (.iload_n 1, 1) := by decide +kernel
theorem dX9_lucky_2 : decode cX9_lucky 2 = .ok (.iload_n 2, 1) := by decide +kernel
theorem dX9_lucky_3 : decode cX9_lucky 3 = .ok (.invokevirtual 137, 3) := by decide +kernel
theorem dX9_lucky_6 : decode cX9_lucky 6 = .ok (.ifCond .eq 15, 3) := by decide +kernel
theorem dX9_lucky_21 : decode cX9_lucky 21 = .ok (.bipush (-2), 2) := by decide +kernel
theorem dX9_lucky_23 : decode cX9_lucky 23 = .ok (.ireturn, 1) := by decide +kernel
def uX9_lucky : List Cond := .code yX9_lucky cX9_lucky 3 (some .int) :: ([.methodLink RX9 137 yX9_hasBoth, .instanceMethod yX9_hasBoth, .selects RX9 yX9_hasBoth yX9_hasBoth, .initialized RX9, .code yX9_hasBoth cX9_hasBoth 3 (some .boolean), .fieldLink RX9 35 "LuckyTicket" "current" "LLuckyTicket$Roll;", .methodLink RX9 149 yX2_hasLaw, .instanceMethod yX2_hasLaw, .selects RX2 yX2_hasLaw yX2_hasLaw, .initialized RX2, .code yX2_hasLaw cX2_hasLaw 2 (some .boolean), .fieldLink RX2 33 "LuckyTicket$Roll" "laws" "I"] ++ wsX90 ++ wsX20)
theorem iX9_lucky_X9 : ∀ w ∈ wsX90, w ∈ uX9_lucky := fun _ h => List.mem_cons_of_mem _ (List.mem_append_left _ (List.mem_append_right _ h))
theorem iX9_lucky_X2 : ∀ w ∈ wsX20, w ∈ uX9_lucky := fun _ h => List.mem_cons_of_mem _ (List.mem_append_right _ h)
set_option maxRecDepth 20000 in
theorem gX9_lucky__X9_hasBoth_V137 : GoodIn uX9_lucky (wsV RX9 137 RX9 yX9_hasBoth uX9_hasBoth) := goodIn_p _ [5, 11] rfl (by decide +kernel)
set_option maxHeartbeats 4000000 in
set_option maxRecDepth 100000 in
theorem kX9_lucky (l : Launch) (dC : Nat → ClassId) (dI : Nat → Nat → Nat) (h0 : Nat) (tp : Nat) (sc : Nat) (rd : Nat) (cu : Nat) (im : Nat) (ig : Nat) (sl : Nat) (se : Nat) (su : Nat) (fc : Nat) (fa : Nat) (lu : Nat) (a1 : Int32) (a2 : Int32) : Met l yX9_lucky uX9_lucky ({ frames := 2, cells := 0, slots := 0, locals := 43 }) (va_Pc [.ref h0, .int a1, .int a2] (pw (dC, dI) vwCl [(h0, .inr (7, [.ref tp, .ref sc, .ref rd, .ref cu, .ref im, .ref ig, .ref sl, .ref se, .ref su, .ref fc])), (cu, .inr (1, [.int 0, .int 0, .int 0, .int 0, .int 0, .ref fa, .ref lu]))] [])) (vp_Si (fun r => r = (-2))) 0 0 (fun _ => False) := by
  refine Met.ofW (cc := cX9_lucky) (maxL := 3) (ret := (some .int)) (by decide) rfl ?_
  intro p e s m args below meth c s₁ B hml hv
  obtain ⟨rfl, hP, hK, hN⟩ := hv
  have hx := B.exec
  have hb := B.bytes
  have hr := B.returns
  have hts := atoms_spec (ws := uX9_lucky) B.pre
  have hown : s.vm.findClass RX9 = some m.cls := findClass_of_methodNamed B.named
  have hlocks := B.notSynchronized
  have hl := lv_entry ([.ref h0, .int a1, .int a2]) (n := 3) (Nat.le_of_ble_eq_true rfl)
  rw [lg_entry_eq]
  generalize (lg_sl ([.ref h0, .int a1, .int a2]) ++ List.replicate (3 - (lg_sl ([.ref h0, .int a1, .int a2])).length) Slot.unset).toArray = ls at hl ⊢
  have hl : lv_has ls 3 [(0, .ref h0), (1, .int a1), (2, .int a2)] := hl
  refine lv_aload_n hx hb dX9_lucky_0 rfl (lv_at hl 0 rfl) ?_
  refine lv_iload_n hx hb dX9_lucky_1 rfl (lv_at hl 1 rfl) ?_
  refine lv_iload_n hx hb dX9_lucky_2 rfl (lv_at hl 2 rfl) ?_
  refine vp_callSi (W.runV (As := [.int a1, .int a2]) (rest := []) ⟨hx, hb, hml, hown, hts⟩ (kX9_hasBoth l dC dI h0 tp sc rd cu im ig sl se su fc fa lu a1 a2) (cwV 2 hts gX9_lucky__X9_hasBoth_V137 rfl rfl rfl (by decide +kernel) ⟨lel 2 2 rfl, lel 43 43 rfl⟩) ⟨pw_fb, va_recv hK hP (ci := 7) (q0 := 0) rfl rfl, (pw_use hP hK hN [0, 1] rfl [] rfl)⟩ rfl rfl hl.1 rfl (lv_room (Nat.le_of_ble_eq_true rfl)) dX9_lucky_3 ⟨lel 0 0 rfl, lel 0 0 rfl⟩) (fun r_1 hr_1 => ?_)
  obtain rfl : r_1 = 0 := hr_1
  refine lv_if_eq (tgt := 21) hx hb dX9_lucky_6 (by decide) (fun _ => ?_) (fun c_2 => absurd c_2 (by decide))
  refine lv_bipush (v := (-2)) hx hb dX9_lucky_21 (by decide) ?_
  exact W.iret (v := (-2)) hx hb hr (fun t ht hW => ⟨(-2), rfl, rfl, ht⟩) t_nil dX9_lucky_23
theorem dX9_laws_0 : decode cX9_laws 0 = .ok (.aload_n 0, 1) := by decide +kernel
theorem dX9_laws_1 : decode cX9_laws 1 = .ok (.getfield 35, 3) := by decide +kernel
theorem dX9_laws_4 : decode cX9_laws 4 = .ok (.iload_n 1, 1) := by decide +kernel
theorem dX9_laws_5 : decode cX9_laws 5 = .ok (.invokevirtual 100, 3) := by decide +kernel
theorem dX9_laws_8 : decode cX9_laws 8 = .ok (.ifCond .eq 14, 3) := by decide +kernel
theorem dX9_laws_22 : decode cX9_laws 22 = .ok (.bipush (-2), 2) := by decide +kernel
theorem dX9_laws_24 : decode cX9_laws 24 = .ok (.ireturn, 1) := by decide +kernel
def uX9_laws : List Cond := .code yX9_laws cX9_laws 2 (some .int) :: ([.fieldLink RX9 35 "LuckyTicket" "current" "LLuckyTicket$Roll;", .methodLink RX9 100 yX2_hasTicket, .instanceMethod yX2_hasTicket, .selects RX2 yX2_hasTicket yX2_hasTicket, .initialized RX2, .code yX2_hasTicket cX2_hasTicket 2 (some .boolean), .fieldLink RX2 42 "LuckyTicket$Roll" "tickets" "I"] ++ wsX90 ++ wsX20)
theorem iX9_laws_X9 : ∀ w ∈ wsX90, w ∈ uX9_laws := fun _ h => List.mem_cons_of_mem _ (List.mem_append_left _ (List.mem_append_right _ h))
theorem iX9_laws_X2 : ∀ w ∈ wsX20, w ∈ uX9_laws := fun _ h => List.mem_cons_of_mem _ (List.mem_append_right _ h)
set_option maxRecDepth 20000 in
theorem gX9_laws__X2_hasTicket_V100 : GoodIn uX9_laws (wsV RX9 100 RX2 yX2_hasTicket uX2_hasTicket) := goodIn_p _ [6] rfl (by decide +kernel)
set_option maxHeartbeats 4000000 in
set_option maxRecDepth 100000 in
theorem kX9_laws (l : Launch) (dC : Nat → ClassId) (dI : Nat → Nat → Nat) (h0 : Nat) (tp : Nat) (sc : Nat) (rd : Nat) (cu : Nat) (im : Nat) (ig : Nat) (sl : Nat) (se : Nat) (su : Nat) (fc : Nat) (fa : Nat) (lu : Nat) (a1 : Int32) : Met l yX9_laws uX9_laws ({ frames := 1, cells := 0, slots := 0, locals := 21 }) (va_Pc [.ref h0, .int a1] (pw (dC, dI) vwCl [(h0, .inr (7, [.ref tp, .ref sc, .ref rd, .ref cu, .ref im, .ref ig, .ref sl, .ref se, .ref su, .ref fc])), (cu, .inr (1, [.int 0, .int 0, .int 0, .int 0, .int 0, .ref fa, .ref lu]))] [])) (vp_Si (fun r => r = (-2))) 0 0 (fun _ => False) := by
  refine Met.ofW (cc := cX9_laws) (maxL := 2) (ret := (some .int)) (by decide) rfl ?_
  intro p e s m args below meth c s₁ B hml hv
  obtain ⟨rfl, hP, hK, hN⟩ := hv
  have hx := B.exec
  have hb := B.bytes
  have hr := B.returns
  have hts := atoms_spec (ws := uX9_laws) B.pre
  have hown : s.vm.findClass RX9 = some m.cls := findClass_of_methodNamed B.named
  have hlocks := B.notSynchronized
  have hl := lv_entry ([.ref h0, .int a1]) (n := 2) (Nat.le_of_ble_eq_true rfl)
  rw [lg_entry_eq]
  generalize (lg_sl ([.ref h0, .int a1]) ++ List.replicate (2 - (lg_sl ([.ref h0, .int a1])).length) Slot.unset).toArray = ls at hl ⊢
  have hl : lv_has ls 2 [(0, .ref h0), (1, .int a1)] := hl
  refine lv_aload_n hx hb dX9_laws_0 rfl (lv_at hl 0 rfl) ?_
  refine va_get (D := (dC, dI)) (ci := 7) (v := .ref cu) (C := RX9) (T := TX9) (N := 10) hx hb hts iX9_laws_X9 hown hK hP 0 rfl rfl 3 (by decide) (hts (.fieldLink RX9 35 "LuckyTicket" "current" "LLuckyTicket$Roll;") (List.mem_of_getElem? (i := 1) rfl)) (fun _ h9 => h9) rfl dX9_laws_1 ?_
  refine lv_iload_n hx hb dX9_laws_4 rfl (lv_at hl 1 rfl) ?_
  refine vp_callSi (W.runV (As := [.int a1]) (rest := []) ⟨hx, hb, hml, hown, hts⟩ (kX2_hasTicket l dC dI cu fa lu a1) (cwV 1 hts gX9_laws__X2_hasTicket_V100 rfl rfl rfl (by decide +kernel) ⟨lel 1 1 rfl, lel 21 21 rfl⟩) ⟨pw_fb, va_recv hK hP (ci := 1) (q0 := 1) rfl rfl, (pw_use hP hK hN [1] rfl [] rfl)⟩ rfl rfl hl.1 rfl (lv_room (Nat.le_of_ble_eq_true rfl)) dX9_laws_5 ⟨lel 0 0 rfl, lel 0 0 rfl⟩) (fun r_1 hr_1 => ?_)
  obtain rfl : r_1 = 0 := hr_1
  refine lv_if_eq (tgt := 22) hx hb dX9_laws_8 (by decide) (fun _ => ?_) (fun c_2 => absurd c_2 (by decide))
  refine lv_bipush (v := (-2)) hx hb dX9_laws_22 (by decide) ?_
  exact W.iret (v := (-2)) hx hb hr (fun t ht hW => ⟨(-2), rfl, rfl, ht⟩) t_nil dX9_laws_24
theorem dX9_many_0 : decode cX9_many 0 = .ok (.aload_n 0, 1) := by decide +kernel
theorem dX9_many_1 : decode cX9_many 1 = .ok (.getfield 35, 3) := by decide +kernel
theorem dX9_many_4 : decode cX9_many 4 = .ok (.iload_n 1, 1) := by decide +kernel
theorem dX9_many_5 : decode cX9_many 5 = .ok (.invokevirtual 149, 3) := by decide +kernel
theorem dX9_many_8 : decode cX9_many 8 = .ok (.ifCond .eq 14, 3) := by decide +kernel
theorem dX9_many_22 : decode cX9_many 22 = .ok (.bipush (-2), 2) := by decide +kernel
theorem dX9_many_24 : decode cX9_many 24 = .ok (.ireturn, 1) := by decide +kernel
def uX9_many : List Cond := .code yX9_many cX9_many 2 (some .int) :: ([.fieldLink RX9 35 "LuckyTicket" "current" "LLuckyTicket$Roll;", .methodLink RX9 149 yX2_hasLaw, .instanceMethod yX2_hasLaw, .selects RX2 yX2_hasLaw yX2_hasLaw, .initialized RX2, .code yX2_hasLaw cX2_hasLaw 2 (some .boolean), .fieldLink RX2 33 "LuckyTicket$Roll" "laws" "I"] ++ wsX90 ++ wsX20)
theorem iX9_many_X9 : ∀ w ∈ wsX90, w ∈ uX9_many := fun _ h => List.mem_cons_of_mem _ (List.mem_append_left _ (List.mem_append_right _ h))
theorem iX9_many_X2 : ∀ w ∈ wsX20, w ∈ uX9_many := fun _ h => List.mem_cons_of_mem _ (List.mem_append_right _ h)
set_option maxRecDepth 20000 in
theorem gX9_many__X2_hasLaw_V149 : GoodIn uX9_many (wsV RX9 149 RX2 yX2_hasLaw uX2_hasLaw) := goodIn_p _ [6] rfl (by decide +kernel)
set_option maxHeartbeats 4000000 in
set_option maxRecDepth 100000 in
theorem kX9_many (l : Launch) (dC : Nat → ClassId) (dI : Nat → Nat → Nat) (h0 : Nat) (tp : Nat) (sc : Nat) (rd : Nat) (cu : Nat) (im : Nat) (ig : Nat) (sl : Nat) (se : Nat) (su : Nat) (fc : Nat) (fa : Nat) (lu : Nat) (a1 : Int32) : Met l yX9_many uX9_many ({ frames := 1, cells := 0, slots := 0, locals := 21 }) (va_Pc [.ref h0, .int a1] (pw (dC, dI) vwCl [(h0, .inr (7, [.ref tp, .ref sc, .ref rd, .ref cu, .ref im, .ref ig, .ref sl, .ref se, .ref su, .ref fc])), (cu, .inr (1, [.int 0, .int 0, .int 0, .int 0, .int 0, .ref fa, .ref lu]))] [])) (vp_Si (fun r => r = (-2))) 0 0 (fun _ => False) := by
  refine Met.ofW (cc := cX9_many) (maxL := 2) (ret := (some .int)) (by decide) rfl ?_
  intro p e s m args below meth c s₁ B hml hv
  obtain ⟨rfl, hP, hK, hN⟩ := hv
  have hx := B.exec
  have hb := B.bytes
  have hr := B.returns
  have hts := atoms_spec (ws := uX9_many) B.pre
  have hown : s.vm.findClass RX9 = some m.cls := findClass_of_methodNamed B.named
  have hlocks := B.notSynchronized
  have hl := lv_entry ([.ref h0, .int a1]) (n := 2) (Nat.le_of_ble_eq_true rfl)
  rw [lg_entry_eq]
  generalize (lg_sl ([.ref h0, .int a1]) ++ List.replicate (2 - (lg_sl ([.ref h0, .int a1])).length) Slot.unset).toArray = ls at hl ⊢
  have hl : lv_has ls 2 [(0, .ref h0), (1, .int a1)] := hl
  refine lv_aload_n hx hb dX9_many_0 rfl (lv_at hl 0 rfl) ?_
  refine va_get (D := (dC, dI)) (ci := 7) (v := .ref cu) (C := RX9) (T := TX9) (N := 10) hx hb hts iX9_many_X9 hown hK hP 0 rfl rfl 3 (by decide) (hts (.fieldLink RX9 35 "LuckyTicket" "current" "LLuckyTicket$Roll;") (List.mem_of_getElem? (i := 1) rfl)) (fun _ h9 => h9) rfl dX9_many_1 ?_
  refine lv_iload_n hx hb dX9_many_4 rfl (lv_at hl 1 rfl) ?_
  refine vp_callSi (W.runV (As := [.int a1]) (rest := []) ⟨hx, hb, hml, hown, hts⟩ (kX2_hasLaw l dC dI cu fa lu a1) (cwV 1 hts gX9_many__X2_hasLaw_V149 rfl rfl rfl (by decide +kernel) ⟨lel 1 1 rfl, lel 21 21 rfl⟩) ⟨pw_fb, va_recv hK hP (ci := 1) (q0 := 1) rfl rfl, (pw_use hP hK hN [1] rfl [] rfl)⟩ rfl rfl hl.1 rfl (lv_room (Nat.le_of_ble_eq_true rfl)) dX9_many_5 ⟨lel 0 0 rfl, lel 0 0 rfl⟩) (fun r_1 hr_1 => ?_)
  obtain rfl : r_1 = 0 := hr_1
  refine lv_if_eq (tgt := 22) hx hb dX9_many_8 (by decide) (fun _ => ?_) (fun c_2 => absurd c_2 (by decide))
  refine lv_bipush (v := (-2)) hx hb dX9_many_22 (by decide) ?_
  exact W.iret (v := (-2)) hx hb hr (fun t ht hW => ⟨(-2), rfl, rfl, ht⟩) t_nil dX9_many_24
theorem dX9_rank_0 : decode cX9_rank 0 = .ok (.aload_n 0, 1) := by decide +kernel
theorem dX9_rank_1 : decode cX9_rank 1 = .ok (.getfield 35, 3) := by decide +kernel
theorem dX9_rank_4 : decode cX9_rank 4 = .ok (.iload_n 1, 1) := by decide +kernel
theorem dX9_rank_5 : decode cX9_rank 5 = .ok (.invokevirtual 149, 3) := by decide +kernel
theorem dX9_rank_8 : decode cX9_rank 8 = .ok (.ifCond .eq 18, 3) := by decide +kernel
theorem dX9_rank_26 : decode cX9_rank 26 = .ok (.bipush (-2), 2) := by decide +kernel
theorem dX9_rank_28 : decode cX9_rank 28 = .ok (.ireturn, 1) := by decide +kernel
def uX9_rank : List Cond := .code yX9_rank cX9_rank 3 (some .int) :: ([.fieldLink RX9 35 "LuckyTicket" "current" "LLuckyTicket$Roll;", .methodLink RX9 149 yX2_hasLaw, .instanceMethod yX2_hasLaw, .selects RX2 yX2_hasLaw yX2_hasLaw, .initialized RX2, .code yX2_hasLaw cX2_hasLaw 2 (some .boolean), .fieldLink RX2 33 "LuckyTicket$Roll" "laws" "I"] ++ wsX90 ++ wsX20)
theorem iX9_rank_X9 : ∀ w ∈ wsX90, w ∈ uX9_rank := fun _ h => List.mem_cons_of_mem _ (List.mem_append_left _ (List.mem_append_right _ h))
theorem iX9_rank_X2 : ∀ w ∈ wsX20, w ∈ uX9_rank := fun _ h => List.mem_cons_of_mem _ (List.mem_append_right _ h)
set_option maxRecDepth 20000 in
theorem gX9_rank__X2_hasLaw_V149 : GoodIn uX9_rank (wsV RX9 149 RX2 yX2_hasLaw uX2_hasLaw) := goodIn_p _ [6] rfl (by decide +kernel)
set_option maxHeartbeats 4000000 in
set_option maxRecDepth 100000 in
theorem kX9_rank (l : Launch) (dC : Nat → ClassId) (dI : Nat → Nat → Nat) (h0 : Nat) (tp : Nat) (sc : Nat) (rd : Nat) (cu : Nat) (im : Nat) (ig : Nat) (sl : Nat) (se : Nat) (su : Nat) (fc : Nat) (fa : Nat) (lu : Nat) (a1 : Int32) (a2 : Int32) : Met l yX9_rank uX9_rank ({ frames := 1, cells := 0, slots := 0, locals := 21 }) (va_Pc [.ref h0, .int a1, .int a2] (pw (dC, dI) vwCl [(h0, .inr (7, [.ref tp, .ref sc, .ref rd, .ref cu, .ref im, .ref ig, .ref sl, .ref se, .ref su, .ref fc])), (cu, .inr (1, [.int 0, .int 0, .int 0, .int 0, .int 0, .ref fa, .ref lu]))] [])) (vp_Si (fun r => r = (-2))) 0 0 (fun _ => False) := by
  refine Met.ofW (cc := cX9_rank) (maxL := 3) (ret := (some .int)) (by decide) rfl ?_
  intro p e s m args below meth c s₁ B hml hv
  obtain ⟨rfl, hP, hK, hN⟩ := hv
  have hx := B.exec
  have hb := B.bytes
  have hr := B.returns
  have hts := atoms_spec (ws := uX9_rank) B.pre
  have hown : s.vm.findClass RX9 = some m.cls := findClass_of_methodNamed B.named
  have hlocks := B.notSynchronized
  have hl := lv_entry ([.ref h0, .int a1, .int a2]) (n := 3) (Nat.le_of_ble_eq_true rfl)
  rw [lg_entry_eq]
  generalize (lg_sl ([.ref h0, .int a1, .int a2]) ++ List.replicate (3 - (lg_sl ([.ref h0, .int a1, .int a2])).length) Slot.unset).toArray = ls at hl ⊢
  have hl : lv_has ls 3 [(0, .ref h0), (1, .int a1), (2, .int a2)] := hl
  refine lv_aload_n hx hb dX9_rank_0 rfl (lv_at hl 0 rfl) ?_
  refine va_get (D := (dC, dI)) (ci := 7) (v := .ref cu) (C := RX9) (T := TX9) (N := 10) hx hb hts iX9_rank_X9 hown hK hP 0 rfl rfl 3 (by decide) (hts (.fieldLink RX9 35 "LuckyTicket" "current" "LLuckyTicket$Roll;") (List.mem_of_getElem? (i := 1) rfl)) (fun _ h9 => h9) rfl dX9_rank_1 ?_
  refine lv_iload_n hx hb dX9_rank_4 rfl (lv_at hl 1 rfl) ?_
  refine vp_callSi (W.runV (As := [.int a1]) (rest := []) ⟨hx, hb, hml, hown, hts⟩ (kX2_hasLaw l dC dI cu fa lu a1) (cwV 1 hts gX9_rank__X2_hasLaw_V149 rfl rfl rfl (by decide +kernel) ⟨lel 1 1 rfl, lel 21 21 rfl⟩) ⟨pw_fb, va_recv hK hP (ci := 1) (q0 := 1) rfl rfl, (pw_use hP hK hN [1] rfl [] rfl)⟩ rfl rfl hl.1 rfl (lv_room (Nat.le_of_ble_eq_true rfl)) dX9_rank_5 ⟨lel 0 0 rfl, lel 0 0 rfl⟩) (fun r_1 hr_1 => ?_)
  obtain rfl : r_1 = 0 := hr_1
  refine lv_if_eq (tgt := 26) hx hb dX9_rank_8 (by decide) (fun _ => ?_) (fun c_2 => absurd c_2 (by decide))
  refine lv_bipush (v := (-2)) hx hb dX9_rank_26 (by decide) ?_
  exact W.iret (v := (-2)) hx hb hr (fun t ht hW => ⟨(-2), rfl, rfl, ht⟩) t_nil dX9_rank_28
theorem dX9_next_0 : decode cX9_next 0 = .ok (.aload_n 0, 1) := by decide +kernel
theorem dX9_next_1 : decode cX9_next 1 = .ok (.iload_n 1, 1) := by decide +kernel
theorem dX9_next_2 : decode cX9_next 2 = .ok (.iload_n 2, 1) := by decide +kernel
theorem dX9_next_3 : decode cX9_next 3 = .ok (.invokevirtual 137, 3) := by decide +kernel
theorem dX9_next_6 : decode cX9_next 6 = .ok (.ifCond .eq 17, 3) := by decide +kernel
theorem dX9_next_23 : decode cX9_next 23 = .ok (.bipush (-2), 2) := by decide +kernel
theorem dX9_next_25 : decode cX9_next 25 = .ok (.ireturn, 1) := by decide +kernel
def uX9_next : List Cond := .code yX9_next cX9_next 3 (some .int) :: ([.methodLink RX9 137 yX9_hasBoth, .instanceMethod yX9_hasBoth, .selects RX9 yX9_hasBoth yX9_hasBoth, .initialized RX9, .code yX9_hasBoth cX9_hasBoth 3 (some .boolean), .fieldLink RX9 35 "LuckyTicket" "current" "LLuckyTicket$Roll;", .methodLink RX9 149 yX2_hasLaw, .instanceMethod yX2_hasLaw, .selects RX2 yX2_hasLaw yX2_hasLaw, .initialized RX2, .code yX2_hasLaw cX2_hasLaw 2 (some .boolean), .fieldLink RX2 33 "LuckyTicket$Roll" "laws" "I"] ++ wsX90 ++ wsX20)
theorem iX9_next_X9 : ∀ w ∈ wsX90, w ∈ uX9_next := fun _ h => List.mem_cons_of_mem _ (List.mem_append_left _ (List.mem_append_right _ h))
theorem iX9_next_X2 : ∀ w ∈ wsX20, w ∈ uX9_next := fun _ h => List.mem_cons_of_mem _ (List.mem_append_right _ h)
set_option maxRecDepth 20000 in
theorem gX9_next__X9_hasBoth_V137 : GoodIn uX9_next (wsV RX9 137 RX9 yX9_hasBoth uX9_hasBoth) := goodIn_p _ [5, 11] rfl (by decide +kernel)
set_option maxHeartbeats 4000000 in
set_option maxRecDepth 100000 in
theorem kX9_next (l : Launch) (dC : Nat → ClassId) (dI : Nat → Nat → Nat) (h0 : Nat) (tp : Nat) (sc : Nat) (rd : Nat) (cu : Nat) (im : Nat) (ig : Nat) (sl : Nat) (se : Nat) (su : Nat) (fc : Nat) (fa : Nat) (lu : Nat) (a1 : Int32) (a2 : Int32) : Met l yX9_next uX9_next ({ frames := 2, cells := 0, slots := 0, locals := 43 }) (va_Pc [.ref h0, .int a1, .int a2] (pw (dC, dI) vwCl [(h0, .inr (7, [.ref tp, .ref sc, .ref rd, .ref cu, .ref im, .ref ig, .ref sl, .ref se, .ref su, .ref fc])), (cu, .inr (1, [.int 0, .int 0, .int 0, .int 0, .int 0, .ref fa, .ref lu]))] [])) (vp_Si (fun r => r = (-2))) 0 0 (fun _ => False) := by
  refine Met.ofW (cc := cX9_next) (maxL := 3) (ret := (some .int)) (by decide) rfl ?_
  intro p e s m args below meth c s₁ B hml hv
  obtain ⟨rfl, hP, hK, hN⟩ := hv
  have hx := B.exec
  have hb := B.bytes
  have hr := B.returns
  have hts := atoms_spec (ws := uX9_next) B.pre
  have hown : s.vm.findClass RX9 = some m.cls := findClass_of_methodNamed B.named
  have hlocks := B.notSynchronized
  have hl := lv_entry ([.ref h0, .int a1, .int a2]) (n := 3) (Nat.le_of_ble_eq_true rfl)
  rw [lg_entry_eq]
  generalize (lg_sl ([.ref h0, .int a1, .int a2]) ++ List.replicate (3 - (lg_sl ([.ref h0, .int a1, .int a2])).length) Slot.unset).toArray = ls at hl ⊢
  have hl : lv_has ls 3 [(0, .ref h0), (1, .int a1), (2, .int a2)] := hl
  refine lv_aload_n hx hb dX9_next_0 rfl (lv_at hl 0 rfl) ?_
  refine lv_iload_n hx hb dX9_next_1 rfl (lv_at hl 1 rfl) ?_
  refine lv_iload_n hx hb dX9_next_2 rfl (lv_at hl 2 rfl) ?_
  refine vp_callSi (W.runV (As := [.int a1, .int a2]) (rest := []) ⟨hx, hb, hml, hown, hts⟩ (kX9_hasBoth l dC dI h0 tp sc rd cu im ig sl se su fc fa lu a1 a2) (cwV 2 hts gX9_next__X9_hasBoth_V137 rfl rfl rfl (by decide +kernel) ⟨lel 2 2 rfl, lel 43 43 rfl⟩) ⟨pw_fb, va_recv hK hP (ci := 7) (q0 := 0) rfl rfl, (pw_use hP hK hN [0, 1] rfl [] rfl)⟩ rfl rfl hl.1 rfl (lv_room (Nat.le_of_ble_eq_true rfl)) dX9_next_3 ⟨lel 0 0 rfl, lel 0 0 rfl⟩) (fun r_1 hr_1 => ?_)
  obtain rfl : r_1 = 0 := hr_1
  refine lv_if_eq (tgt := 23) hx hb dX9_next_6 (by decide) (fun _ => ?_) (fun c_2 => absurd c_2 (by decide))
  refine lv_bipush (v := (-2)) hx hb dX9_next_23 (by decide) ?_
  exact W.iret (v := (-2)) hx hb hr (fun t ht hW => ⟨(-2), rfl, rfl, ht⟩) t_nil dX9_next_25
theorem dX9_last_0 : decode cX9_last 0 = .ok (.aload_n 0, 1) := by decide +kernel
theorem dX9_last_1 : decode cX9_last 1 = .ok (.iload_n 1, 1) := by decide +kernel
theorem dX9_last_2 : decode cX9_last 2 = .ok (.iload_n 2, 1) := by decide +kernel
theorem dX9_last_3 : decode cX9_last 3 = .ok (.invokevirtual 137, 3) := by decide +kernel
theorem dX9_last_6 : decode cX9_last 6 = .ok (.ifCond .eq 17, 3) := by decide +kernel
theorem dX9_last_23 : decode cX9_last 23 = .ok (.bipush (-2), 2) := by decide +kernel
theorem dX9_last_25 : decode cX9_last 25 = .ok (.ireturn, 1) := by decide +kernel
def uX9_last : List Cond := .code yX9_last cX9_last 3 (some .int) :: ([.methodLink RX9 137 yX9_hasBoth, .instanceMethod yX9_hasBoth, .selects RX9 yX9_hasBoth yX9_hasBoth, .initialized RX9, .code yX9_hasBoth cX9_hasBoth 3 (some .boolean), .fieldLink RX9 35 "LuckyTicket" "current" "LLuckyTicket$Roll;", .methodLink RX9 149 yX2_hasLaw, .instanceMethod yX2_hasLaw, .selects RX2 yX2_hasLaw yX2_hasLaw, .initialized RX2, .code yX2_hasLaw cX2_hasLaw 2 (some .boolean), .fieldLink RX2 33 "LuckyTicket$Roll" "laws" "I"] ++ wsX90 ++ wsX20)
theorem iX9_last_X9 : ∀ w ∈ wsX90, w ∈ uX9_last := fun _ h => List.mem_cons_of_mem _ (List.mem_append_left _ (List.mem_append_right _ h))
theorem iX9_last_X2 : ∀ w ∈ wsX20, w ∈ uX9_last := fun _ h => List.mem_cons_of_mem _ (List.mem_append_right _ h)
set_option maxRecDepth 20000 in
theorem gX9_last__X9_hasBoth_V137 : GoodIn uX9_last (wsV RX9 137 RX9 yX9_hasBoth uX9_hasBoth) := goodIn_p _ [5, 11] rfl (by decide +kernel)
set_option maxHeartbeats 4000000 in
set_option maxRecDepth 100000 in
theorem kX9_last (l : Launch) (dC : Nat → ClassId) (dI : Nat → Nat → Nat) (h0 : Nat) (tp : Nat) (sc : Nat) (rd : Nat) (cu : Nat) (im : Nat) (ig : Nat) (sl : Nat) (se : Nat) (su : Nat) (fc : Nat) (fa : Nat) (lu : Nat) (a1 : Int32) (a2 : Int32) : Met l yX9_last uX9_last ({ frames := 2, cells := 0, slots := 0, locals := 43 }) (va_Pc [.ref h0, .int a1, .int a2] (pw (dC, dI) vwCl [(h0, .inr (7, [.ref tp, .ref sc, .ref rd, .ref cu, .ref im, .ref ig, .ref sl, .ref se, .ref su, .ref fc])), (cu, .inr (1, [.int 0, .int 0, .int 0, .int 0, .int 0, .ref fa, .ref lu]))] [])) (vp_Si (fun r => r = (-2))) 0 0 (fun _ => False) := by
  refine Met.ofW (cc := cX9_last) (maxL := 3) (ret := (some .int)) (by decide) rfl ?_
  intro p e s m args below meth c s₁ B hml hv
  obtain ⟨rfl, hP, hK, hN⟩ := hv
  have hx := B.exec
  have hb := B.bytes
  have hr := B.returns
  have hts := atoms_spec (ws := uX9_last) B.pre
  have hown : s.vm.findClass RX9 = some m.cls := findClass_of_methodNamed B.named
  have hlocks := B.notSynchronized
  have hl := lv_entry ([.ref h0, .int a1, .int a2]) (n := 3) (Nat.le_of_ble_eq_true rfl)
  rw [lg_entry_eq]
  generalize (lg_sl ([.ref h0, .int a1, .int a2]) ++ List.replicate (3 - (lg_sl ([.ref h0, .int a1, .int a2])).length) Slot.unset).toArray = ls at hl ⊢
  have hl : lv_has ls 3 [(0, .ref h0), (1, .int a1), (2, .int a2)] := hl
  refine lv_aload_n hx hb dX9_last_0 rfl (lv_at hl 0 rfl) ?_
  refine lv_iload_n hx hb dX9_last_1 rfl (lv_at hl 1 rfl) ?_
  refine lv_iload_n hx hb dX9_last_2 rfl (lv_at hl 2 rfl) ?_
  refine vp_callSi (W.runV (As := [.int a1, .int a2]) (rest := []) ⟨hx, hb, hml, hown, hts⟩ (kX9_hasBoth l dC dI h0 tp sc rd cu im ig sl se su fc fa lu a1 a2) (cwV 2 hts gX9_last__X9_hasBoth_V137 rfl rfl rfl (by decide +kernel) ⟨lel 2 2 rfl, lel 43 43 rfl⟩) ⟨pw_fb, va_recv hK hP (ci := 7) (q0 := 0) rfl rfl, (pw_use hP hK hN [0, 1] rfl [] rfl)⟩ rfl rfl hl.1 rfl (lv_room (Nat.le_of_ble_eq_true rfl)) dX9_last_3 ⟨lel 0 0 rfl, lel 0 0 rfl⟩) (fun r_1 hr_1 => ?_)
  obtain rfl : r_1 = 0 := hr_1
  refine lv_if_eq (tgt := 23) hx hb dX9_last_6 (by decide) (fun _ => ?_) (fun c_2 => absurd c_2 (by decide))
  refine lv_bipush (v := (-2)) hx hb dX9_last_23 (by decide) ?_
  exact W.iret (v := (-2)) hx hb hr (fun t ht hW => ⟨(-2), rfl, rfl, ht⟩) t_nil dX9_last_25
theorem dX9_nth_0 : decode cX9_nth 0 = .ok (.aload_n 0, 1) := by decide +kernel
theorem dX9_nth_1 : decode cX9_nth 1 = .ok (.getfield 35, 3) := by decide +kernel
theorem dX9_nth_4 : decode cX9_nth 4 = .ok (.iload_n 1, 1) := by decide +kernel
theorem dX9_nth_5 : decode cX9_nth 5 = .ok (.invokevirtual 149, 3) := by decide +kernel
theorem dX9_nth_8 : decode cX9_nth 8 = .ok (.ifCond .eq 15, 3) := by decide +kernel
theorem dX9_nth_23 : decode cX9_nth 23 = .ok (.bipush (-2), 2) := by decide +kernel
theorem dX9_nth_25 : decode cX9_nth 25 = .ok (.ireturn, 1) := by decide +kernel
def uX9_nth : List Cond := .code yX9_nth cX9_nth 3 (some .int) :: ([.fieldLink RX9 35 "LuckyTicket" "current" "LLuckyTicket$Roll;", .methodLink RX9 149 yX2_hasLaw, .instanceMethod yX2_hasLaw, .selects RX2 yX2_hasLaw yX2_hasLaw, .initialized RX2, .code yX2_hasLaw cX2_hasLaw 2 (some .boolean), .fieldLink RX2 33 "LuckyTicket$Roll" "laws" "I"] ++ wsX90 ++ wsX20)
theorem iX9_nth_X9 : ∀ w ∈ wsX90, w ∈ uX9_nth := fun _ h => List.mem_cons_of_mem _ (List.mem_append_left _ (List.mem_append_right _ h))
theorem iX9_nth_X2 : ∀ w ∈ wsX20, w ∈ uX9_nth := fun _ h => List.mem_cons_of_mem _ (List.mem_append_right _ h)
set_option maxRecDepth 20000 in
theorem gX9_nth__X2_hasLaw_V149 : GoodIn uX9_nth (wsV RX9 149 RX2 yX2_hasLaw uX2_hasLaw) := goodIn_p _ [6] rfl (by decide +kernel)
set_option maxHeartbeats 4000000 in
set_option maxRecDepth 100000 in
theorem kX9_nth (l : Launch) (dC : Nat → ClassId) (dI : Nat → Nat → Nat) (h0 : Nat) (tp : Nat) (sc : Nat) (rd : Nat) (cu : Nat) (im : Nat) (ig : Nat) (sl : Nat) (se : Nat) (su : Nat) (fc : Nat) (fa : Nat) (lu : Nat) (a1 : Int32) (a2 : Int32) : Met l yX9_nth uX9_nth ({ frames := 1, cells := 0, slots := 0, locals := 21 }) (va_Pc [.ref h0, .int a1, .int a2] (pw (dC, dI) vwCl [(h0, .inr (7, [.ref tp, .ref sc, .ref rd, .ref cu, .ref im, .ref ig, .ref sl, .ref se, .ref su, .ref fc])), (cu, .inr (1, [.int 0, .int 0, .int 0, .int 0, .int 0, .ref fa, .ref lu]))] [])) (vp_Si (fun r => r = (-2))) 0 0 (fun _ => False) := by
  refine Met.ofW (cc := cX9_nth) (maxL := 3) (ret := (some .int)) (by decide) rfl ?_
  intro p e s m args below meth c s₁ B hml hv
  obtain ⟨rfl, hP, hK, hN⟩ := hv
  have hx := B.exec
  have hb := B.bytes
  have hr := B.returns
  have hts := atoms_spec (ws := uX9_nth) B.pre
  have hown : s.vm.findClass RX9 = some m.cls := findClass_of_methodNamed B.named
  have hlocks := B.notSynchronized
  have hl := lv_entry ([.ref h0, .int a1, .int a2]) (n := 3) (Nat.le_of_ble_eq_true rfl)
  rw [lg_entry_eq]
  generalize (lg_sl ([.ref h0, .int a1, .int a2]) ++ List.replicate (3 - (lg_sl ([.ref h0, .int a1, .int a2])).length) Slot.unset).toArray = ls at hl ⊢
  have hl : lv_has ls 3 [(0, .ref h0), (1, .int a1), (2, .int a2)] := hl
  refine lv_aload_n hx hb dX9_nth_0 rfl (lv_at hl 0 rfl) ?_
  refine va_get (D := (dC, dI)) (ci := 7) (v := .ref cu) (C := RX9) (T := TX9) (N := 10) hx hb hts iX9_nth_X9 hown hK hP 0 rfl rfl 3 (by decide) (hts (.fieldLink RX9 35 "LuckyTicket" "current" "LLuckyTicket$Roll;") (List.mem_of_getElem? (i := 1) rfl)) (fun _ h9 => h9) rfl dX9_nth_1 ?_
  refine lv_iload_n hx hb dX9_nth_4 rfl (lv_at hl 1 rfl) ?_
  refine vp_callSi (W.runV (As := [.int a1]) (rest := []) ⟨hx, hb, hml, hown, hts⟩ (kX2_hasLaw l dC dI cu fa lu a1) (cwV 1 hts gX9_nth__X2_hasLaw_V149 rfl rfl rfl (by decide +kernel) ⟨lel 1 1 rfl, lel 21 21 rfl⟩) ⟨pw_fb, va_recv hK hP (ci := 1) (q0 := 1) rfl rfl, (pw_use hP hK hN [1] rfl [] rfl)⟩ rfl rfl hl.1 rfl (lv_room (Nat.le_of_ble_eq_true rfl)) dX9_nth_5 ⟨lel 0 0 rfl, lel 0 0 rfl⟩) (fun r_1 hr_1 => ?_)
  obtain rfl : r_1 = 0 := hr_1
  refine lv_if_eq (tgt := 23) hx hb dX9_nth_8 (by decide) (fun _ => ?_) (fun c_2 => absurd c_2 (by decide))
  refine lv_bipush (v := (-2)) hx hb dX9_nth_23 (by decide) ?_
  exact W.iret (v := (-2)) hx hb hr (fun t ht hW => ⟨(-2), rfl, rfl, ht⟩) t_nil dX9_nth_25
theorem dX9_gap_0 : decode cX9_gap 0 = .ok (.aload_n 0, 1) := by decide +kernel
theorem dX9_gap_1 : decode cX9_gap 1 = .ok (.getfield 35, 3) := by decide +kernel
theorem dX9_gap_4 : decode cX9_gap 4 = .ok (.iload_n 1, 1) := by decide +kernel
theorem dX9_gap_5 : decode cX9_gap 5 = .ok (.invokevirtual 149, 3) := by decide +kernel
theorem dX9_gap_8 : decode cX9_gap 8 = .ok (.ifCond .eq 12, 3) := by decide +kernel
theorem dX9_gap_20 : decode cX9_gap 20 = .ok (.bipush (-2), 2) := by decide +kernel
theorem dX9_gap_22 : decode cX9_gap 22 = .ok (.ireturn, 1) := by decide +kernel
def uX9_gap : List Cond := .code yX9_gap cX9_gap 7 (some .int) :: ([.fieldLink RX9 35 "LuckyTicket" "current" "LLuckyTicket$Roll;", .methodLink RX9 149 yX2_hasLaw, .instanceMethod yX2_hasLaw, .selects RX2 yX2_hasLaw yX2_hasLaw, .initialized RX2, .code yX2_hasLaw cX2_hasLaw 2 (some .boolean), .fieldLink RX2 33 "LuckyTicket$Roll" "laws" "I"] ++ wsX90 ++ wsX20)
theorem iX9_gap_X9 : ∀ w ∈ wsX90, w ∈ uX9_gap := fun _ h => List.mem_cons_of_mem _ (List.mem_append_left _ (List.mem_append_right _ h))
theorem iX9_gap_X2 : ∀ w ∈ wsX20, w ∈ uX9_gap := fun _ h => List.mem_cons_of_mem _ (List.mem_append_right _ h)
set_option maxRecDepth 20000 in
theorem gX9_gap__X2_hasLaw_V149 : GoodIn uX9_gap (wsV RX9 149 RX2 yX2_hasLaw uX2_hasLaw) := goodIn_p _ [6] rfl (by decide +kernel)
set_option maxHeartbeats 4000000 in
set_option maxRecDepth 100000 in
theorem kX9_gap (l : Launch) (dC : Nat → ClassId) (dI : Nat → Nat → Nat) (h0 : Nat) (tp : Nat) (sc : Nat) (rd : Nat) (cu : Nat) (im : Nat) (ig : Nat) (sl : Nat) (se : Nat) (su : Nat) (fc : Nat) (fa : Nat) (lu : Nat) (a1 : Int32) (a2 : Int32) : Met l yX9_gap uX9_gap ({ frames := 1, cells := 0, slots := 0, locals := 21 }) (va_Pc [.ref h0, .int a1, .int a2] (pw (dC, dI) vwCl [(h0, .inr (7, [.ref tp, .ref sc, .ref rd, .ref cu, .ref im, .ref ig, .ref sl, .ref se, .ref su, .ref fc])), (cu, .inr (1, [.int 0, .int 0, .int 0, .int 0, .int 0, .ref fa, .ref lu]))] [])) (vp_Si (fun r => r = (-2))) 0 0 (fun _ => False) := by
  refine Met.ofW (cc := cX9_gap) (maxL := 7) (ret := (some .int)) (by decide) rfl ?_
  intro p e s m args below meth c s₁ B hml hv
  obtain ⟨rfl, hP, hK, hN⟩ := hv
  have hx := B.exec
  have hb := B.bytes
  have hr := B.returns
  have hts := atoms_spec (ws := uX9_gap) B.pre
  have hown : s.vm.findClass RX9 = some m.cls := findClass_of_methodNamed B.named
  have hlocks := B.notSynchronized
  have hl := lv_entry ([.ref h0, .int a1, .int a2]) (n := 7) (Nat.le_of_ble_eq_true rfl)
  rw [lg_entry_eq]
  generalize (lg_sl ([.ref h0, .int a1, .int a2]) ++ List.replicate (7 - (lg_sl ([.ref h0, .int a1, .int a2])).length) Slot.unset).toArray = ls at hl ⊢
  have hl : lv_has ls 7 [(0, .ref h0), (1, .int a1), (2, .int a2)] := hl
  refine lv_aload_n hx hb dX9_gap_0 rfl (lv_at hl 0 rfl) ?_
  refine va_get (D := (dC, dI)) (ci := 7) (v := .ref cu) (C := RX9) (T := TX9) (N := 10) hx hb hts iX9_gap_X9 hown hK hP 0 rfl rfl 3 (by decide) (hts (.fieldLink RX9 35 "LuckyTicket" "current" "LLuckyTicket$Roll;") (List.mem_of_getElem? (i := 1) rfl)) (fun _ h9 => h9) rfl dX9_gap_1 ?_
  refine lv_iload_n hx hb dX9_gap_4 rfl (lv_at hl 1 rfl) ?_
  refine vp_callSi (W.runV (As := [.int a1]) (rest := []) ⟨hx, hb, hml, hown, hts⟩ (kX2_hasLaw l dC dI cu fa lu a1) (cwV 1 hts gX9_gap__X2_hasLaw_V149 rfl rfl rfl (by decide +kernel) ⟨lel 1 1 rfl, lel 21 21 rfl⟩) ⟨pw_fb, va_recv hK hP (ci := 1) (q0 := 1) rfl rfl, (pw_use hP hK hN [1] rfl [] rfl)⟩ rfl rfl hl.1 rfl (lv_room (Nat.le_of_ble_eq_true rfl)) dX9_gap_5 ⟨lel 0 0 rfl, lel 0 0 rfl⟩) (fun r_1 hr_1 => ?_)
  obtain rfl : r_1 = 0 := hr_1
  refine lv_if_eq (tgt := 20) hx hb dX9_gap_8 (by decide) (fun _ => ?_) (fun c_2 => absurd c_2 (by decide))
  refine lv_bipush (v := (-2)) hx hb dX9_gap_20 (by decide) ?_
  exact W.iret (v := (-2)) hx hb hr (fun t ht hW => ⟨(-2), rfl, rfl, ht⟩) t_nil dX9_gap_22
theorem dX9_waits_0 : decode cX9_waits 0 = .ok (.aload_n 0, 1) := by decide +kernel
theorem dX9_waits_1 : decode cX9_waits 1 = .ok (.iload_n 1, 1) := by decide +kernel
theorem dX9_waits_2 : decode cX9_waits 2 = .ok (.iload_n 2, 1) := by decide +kernel
theorem dX9_waits_3 : decode cX9_waits 3 = .ok (.invokevirtual 137, 3) := by decide +kernel
theorem dX9_waits_6 : decode cX9_waits 6 = .ok (.ifCond .eq 10, 3) := by decide +kernel
theorem dX9_waits_16 : decode cX9_waits 16 = .ok (.bipush (-2), 2) := by decide +kernel
theorem dX9_waits_18 : decode cX9_waits 18 = .ok (.ireturn, 1) := by decide +kernel
def uX9_waits : List Cond := .code yX9_waits cX9_waits 6 (some .int) :: ([.methodLink RX9 137 yX9_hasBoth, .instanceMethod yX9_hasBoth, .selects RX9 yX9_hasBoth yX9_hasBoth, .initialized RX9, .code yX9_hasBoth cX9_hasBoth 3 (some .boolean), .fieldLink RX9 35 "LuckyTicket" "current" "LLuckyTicket$Roll;", .methodLink RX9 149 yX2_hasLaw, .instanceMethod yX2_hasLaw, .selects RX2 yX2_hasLaw yX2_hasLaw, .initialized RX2, .code yX2_hasLaw cX2_hasLaw 2 (some .boolean), .fieldLink RX2 33 "LuckyTicket$Roll" "laws" "I"] ++ wsX90 ++ wsX20)
theorem iX9_waits_X9 : ∀ w ∈ wsX90, w ∈ uX9_waits := fun _ h => List.mem_cons_of_mem _ (List.mem_append_left _ (List.mem_append_right _ h))
theorem iX9_waits_X2 : ∀ w ∈ wsX20, w ∈ uX9_waits := fun _ h => List.mem_cons_of_mem _ (List.mem_append_right _ h)
set_option maxRecDepth 20000 in
theorem gX9_waits__X9_hasBoth_V137 : GoodIn uX9_waits (wsV RX9 137 RX9 yX9_hasBoth uX9_hasBoth) := goodIn_p _ [5, 11] rfl (by decide +kernel)
set_option maxHeartbeats 4000000 in
set_option maxRecDepth 100000 in
theorem kX9_waits (l : Launch) (dC : Nat → ClassId) (dI : Nat → Nat → Nat) (h0 : Nat) (tp : Nat) (sc : Nat) (rd : Nat) (cu : Nat) (im : Nat) (ig : Nat) (sl : Nat) (se : Nat) (su : Nat) (fc : Nat) (fa : Nat) (lu : Nat) (a1 : Int32) (a2 : Int32) (a3 : Int32) : Met l yX9_waits uX9_waits ({ frames := 2, cells := 0, slots := 0, locals := 43 }) (va_Pc [.ref h0, .int a1, .int a2, .int a3] (pw (dC, dI) vwCl [(h0, .inr (7, [.ref tp, .ref sc, .ref rd, .ref cu, .ref im, .ref ig, .ref sl, .ref se, .ref su, .ref fc])), (cu, .inr (1, [.int 0, .int 0, .int 0, .int 0, .int 0, .ref fa, .ref lu]))] [])) (vp_Si (fun r => r = (-2))) 0 0 (fun _ => False) := by
  refine Met.ofW (cc := cX9_waits) (maxL := 6) (ret := (some .int)) (by decide) rfl ?_
  intro p e s m args below meth c s₁ B hml hv
  obtain ⟨rfl, hP, hK, hN⟩ := hv
  have hx := B.exec
  have hb := B.bytes
  have hr := B.returns
  have hts := atoms_spec (ws := uX9_waits) B.pre
  have hown : s.vm.findClass RX9 = some m.cls := findClass_of_methodNamed B.named
  have hlocks := B.notSynchronized
  have hl := lv_entry ([.ref h0, .int a1, .int a2, .int a3]) (n := 6) (Nat.le_of_ble_eq_true rfl)
  rw [lg_entry_eq]
  generalize (lg_sl ([.ref h0, .int a1, .int a2, .int a3]) ++ List.replicate (6 - (lg_sl ([.ref h0, .int a1, .int a2, .int a3])).length) Slot.unset).toArray = ls at hl ⊢
  have hl : lv_has ls 6 [(0, .ref h0), (1, .int a1), (2, .int a2), (3, .int a3)] := hl
  refine lv_aload_n hx hb dX9_waits_0 rfl (lv_at hl 0 rfl) ?_
  refine lv_iload_n hx hb dX9_waits_1 rfl (lv_at hl 1 rfl) ?_
  refine lv_iload_n hx hb dX9_waits_2 rfl (lv_at hl 2 rfl) ?_
  refine vp_callSi (W.runV (As := [.int a1, .int a2]) (rest := []) ⟨hx, hb, hml, hown, hts⟩ (kX9_hasBoth l dC dI h0 tp sc rd cu im ig sl se su fc fa lu a1 a2) (cwV 2 hts gX9_waits__X9_hasBoth_V137 rfl rfl rfl (by decide +kernel) ⟨lel 2 2 rfl, lel 43 43 rfl⟩) ⟨pw_fb, va_recv hK hP (ci := 7) (q0 := 0) rfl rfl, (pw_use hP hK hN [0, 1] rfl [] rfl)⟩ rfl rfl hl.1 rfl (lv_room (Nat.le_of_ble_eq_true rfl)) dX9_waits_3 ⟨lel 0 0 rfl, lel 0 0 rfl⟩) (fun r_1 hr_1 => ?_)
  obtain rfl : r_1 = 0 := hr_1
  refine lv_if_eq (tgt := 16) hx hb dX9_waits_6 (by decide) (fun _ => ?_) (fun c_2 => absurd c_2 (by decide))
  refine lv_bipush (v := (-2)) hx hb dX9_waits_16 (by decide) ?_
  exact W.iret (v := (-2)) hx hb hr (fun t ht hW => ⟨(-2), rfl, rfl, ht⟩) t_nil dX9_waits_18
theorem dX9_hits_0 : decode cX9_hits 0 = .ok (.aload_n 0, 1) := by decide +kernel
theorem dX9_hits_1 : decode cX9_hits 1 = .ok (.iload_n 1, 1) := by decide +kernel
theorem dX9_hits_2 : decode cX9_hits 2 = .ok (.iload_n 2, 1) := by decide +kernel
theorem dX9_hits_3 : decode cX9_hits 3 = .ok (.invokevirtual 137, 3) := by decide +kernel
theorem dX9_hits_6 : decode cX9_hits 6 = .ok (.ifCond .eq 22, 3) := by decide +kernel
theorem dX9_hits_28 : decode cX9_hits 28 = .ok (.bipush (-2), 2) := by decide +kernel
theorem dX9_hits_30 : decode cX9_hits 30 = .ok (.ireturn, 1) := by decide +kernel
def uX9_hits : List Cond := .code yX9_hits cX9_hits 5 (some .int) :: ([.methodLink RX9 137 yX9_hasBoth, .instanceMethod yX9_hasBoth, .selects RX9 yX9_hasBoth yX9_hasBoth, .initialized RX9, .code yX9_hasBoth cX9_hasBoth 3 (some .boolean), .fieldLink RX9 35 "LuckyTicket" "current" "LLuckyTicket$Roll;", .methodLink RX9 149 yX2_hasLaw, .instanceMethod yX2_hasLaw, .selects RX2 yX2_hasLaw yX2_hasLaw, .initialized RX2, .code yX2_hasLaw cX2_hasLaw 2 (some .boolean), .fieldLink RX2 33 "LuckyTicket$Roll" "laws" "I"] ++ wsX90 ++ wsX20)
theorem iX9_hits_X9 : ∀ w ∈ wsX90, w ∈ uX9_hits := fun _ h => List.mem_cons_of_mem _ (List.mem_append_left _ (List.mem_append_right _ h))
theorem iX9_hits_X2 : ∀ w ∈ wsX20, w ∈ uX9_hits := fun _ h => List.mem_cons_of_mem _ (List.mem_append_right _ h)
set_option maxRecDepth 20000 in
theorem gX9_hits__X9_hasBoth_V137 : GoodIn uX9_hits (wsV RX9 137 RX9 yX9_hasBoth uX9_hasBoth) := goodIn_p _ [5, 11] rfl (by decide +kernel)
set_option maxHeartbeats 4000000 in
set_option maxRecDepth 100000 in
theorem kX9_hits (l : Launch) (dC : Nat → ClassId) (dI : Nat → Nat → Nat) (h0 : Nat) (tp : Nat) (sc : Nat) (rd : Nat) (cu : Nat) (im : Nat) (ig : Nat) (sl : Nat) (se : Nat) (su : Nat) (fc : Nat) (fa : Nat) (lu : Nat) (a1 : Int32) (a2 : Int32) (a3 : Int32) (a4 : Int32) : Met l yX9_hits uX9_hits ({ frames := 2, cells := 0, slots := 0, locals := 43 }) (va_Pc [.ref h0, .int a1, .int a2, .int a3, .int a4] (pw (dC, dI) vwCl [(h0, .inr (7, [.ref tp, .ref sc, .ref rd, .ref cu, .ref im, .ref ig, .ref sl, .ref se, .ref su, .ref fc])), (cu, .inr (1, [.int 0, .int 0, .int 0, .int 0, .int 0, .ref fa, .ref lu]))] [])) (vp_Si (fun r => r = (-2))) 0 0 (fun _ => False) := by
  refine Met.ofW (cc := cX9_hits) (maxL := 5) (ret := (some .int)) (by decide) rfl ?_
  intro p e s m args below meth c s₁ B hml hv
  obtain ⟨rfl, hP, hK, hN⟩ := hv
  have hx := B.exec
  have hb := B.bytes
  have hr := B.returns
  have hts := atoms_spec (ws := uX9_hits) B.pre
  have hown : s.vm.findClass RX9 = some m.cls := findClass_of_methodNamed B.named
  have hlocks := B.notSynchronized
  have hl := lv_entry ([.ref h0, .int a1, .int a2, .int a3, .int a4]) (n := 5) (Nat.le_of_ble_eq_true rfl)
  rw [lg_entry_eq]
  generalize (lg_sl ([.ref h0, .int a1, .int a2, .int a3, .int a4]) ++ List.replicate (5 - (lg_sl ([.ref h0, .int a1, .int a2, .int a3, .int a4])).length) Slot.unset).toArray = ls at hl ⊢
  have hl : lv_has ls 5 [(0, .ref h0), (1, .int a1), (2, .int a2), (3, .int a3), (4, .int a4)] := hl
  refine lv_aload_n hx hb dX9_hits_0 rfl (lv_at hl 0 rfl) ?_
  refine lv_iload_n hx hb dX9_hits_1 rfl (lv_at hl 1 rfl) ?_
  refine lv_iload_n hx hb dX9_hits_2 rfl (lv_at hl 2 rfl) ?_
  refine vp_callSi (W.runV (As := [.int a1, .int a2]) (rest := []) ⟨hx, hb, hml, hown, hts⟩ (kX9_hasBoth l dC dI h0 tp sc rd cu im ig sl se su fc fa lu a1 a2) (cwV 2 hts gX9_hits__X9_hasBoth_V137 rfl rfl rfl (by decide +kernel) ⟨lel 2 2 rfl, lel 43 43 rfl⟩) ⟨pw_fb, va_recv hK hP (ci := 7) (q0 := 0) rfl rfl, (pw_use hP hK hN [0, 1] rfl [] rfl)⟩ rfl rfl hl.1 rfl (lv_room (Nat.le_of_ble_eq_true rfl)) dX9_hits_3 ⟨lel 0 0 rfl, lel 0 0 rfl⟩) (fun r_1 hr_1 => ?_)
  obtain rfl : r_1 = 0 := hr_1
  refine lv_if_eq (tgt := 28) hx hb dX9_hits_6 (by decide) (fun _ => ?_) (fun c_2 => absurd c_2 (by decide))
  refine lv_bipush (v := (-2)) hx hb dX9_hits_28 (by decide) ?_
  exact W.iret (v := (-2)) hx hb hr (fun t ht hW => ⟨(-2), rfl, rfl, ht⟩) t_nil dX9_hits_30
theorem dX9_steps_0 : decode cX9_steps 0 = .ok (.aload_n 0, 1) := by decide +kernel
theorem dX9_steps_1 : decode cX9_steps 1 = .ok (.iload_n 1, 1) := by decide +kernel
theorem dX9_steps_2 : decode cX9_steps 2 = .ok (.iload_n 2, 1) := by decide +kernel
theorem dX9_steps_3 : decode cX9_steps 3 = .ok (.invokevirtual 137, 3) := by decide +kernel
theorem dX9_steps_6 : decode cX9_steps 6 = .ok (.ifCond .eq 23, 3) := by decide +kernel
theorem dX9_steps_29 : decode cX9_steps 29 = .ok (.bipush (-2), 2) := by decide +kernel
theorem dX9_steps_31 : decode cX9_steps 31 = .ok (.ireturn, 1) := by decide +kernel
def uX9_steps : List Cond := .code yX9_steps cX9_steps 9 (some .int) :: ([.methodLink RX9 137 yX9_hasBoth, .instanceMethod yX9_hasBoth, .selects RX9 yX9_hasBoth yX9_hasBoth, .initialized RX9, .code yX9_hasBoth cX9_hasBoth 3 (some .boolean), .fieldLink RX9 35 "LuckyTicket" "current" "LLuckyTicket$Roll;", .methodLink RX9 149 yX2_hasLaw, .instanceMethod yX2_hasLaw, .selects RX2 yX2_hasLaw yX2_hasLaw, .initialized RX2, .code yX2_hasLaw cX2_hasLaw 2 (some .boolean), .fieldLink RX2 33 "LuckyTicket$Roll" "laws" "I"] ++ wsX90 ++ wsX20)
theorem iX9_steps_X9 : ∀ w ∈ wsX90, w ∈ uX9_steps := fun _ h => List.mem_cons_of_mem _ (List.mem_append_left _ (List.mem_append_right _ h))
theorem iX9_steps_X2 : ∀ w ∈ wsX20, w ∈ uX9_steps := fun _ h => List.mem_cons_of_mem _ (List.mem_append_right _ h)
set_option maxRecDepth 20000 in
theorem gX9_steps__X9_hasBoth_V137 : GoodIn uX9_steps (wsV RX9 137 RX9 yX9_hasBoth uX9_hasBoth) := goodIn_p _ [5, 11] rfl (by decide +kernel)
set_option maxHeartbeats 4000000 in
set_option maxRecDepth 100000 in
theorem kX9_steps (l : Launch) (dC : Nat → ClassId) (dI : Nat → Nat → Nat) (h0 : Nat) (tp : Nat) (sc : Nat) (rd : Nat) (cu : Nat) (im : Nat) (ig : Nat) (sl : Nat) (se : Nat) (su : Nat) (fc : Nat) (fa : Nat) (lu : Nat) (a1 : Int32) (a2 : Int32) (a3 : Int32) (a4 : Int32) : Met l yX9_steps uX9_steps ({ frames := 2, cells := 0, slots := 0, locals := 43 }) (va_Pc [.ref h0, .int a1, .int a2, .int a3, .int a4] (pw (dC, dI) vwCl [(h0, .inr (7, [.ref tp, .ref sc, .ref rd, .ref cu, .ref im, .ref ig, .ref sl, .ref se, .ref su, .ref fc])), (cu, .inr (1, [.int 0, .int 0, .int 0, .int 0, .int 0, .ref fa, .ref lu]))] [])) (vp_Si (fun r => r = (-2))) 0 0 (fun _ => False) := by
  refine Met.ofW (cc := cX9_steps) (maxL := 9) (ret := (some .int)) (by decide) rfl ?_
  intro p e s m args below meth c s₁ B hml hv
  obtain ⟨rfl, hP, hK, hN⟩ := hv
  have hx := B.exec
  have hb := B.bytes
  have hr := B.returns
  have hts := atoms_spec (ws := uX9_steps) B.pre
  have hown : s.vm.findClass RX9 = some m.cls := findClass_of_methodNamed B.named
  have hlocks := B.notSynchronized
  have hl := lv_entry ([.ref h0, .int a1, .int a2, .int a3, .int a4]) (n := 9) (Nat.le_of_ble_eq_true rfl)
  rw [lg_entry_eq]
  generalize (lg_sl ([.ref h0, .int a1, .int a2, .int a3, .int a4]) ++ List.replicate (9 - (lg_sl ([.ref h0, .int a1, .int a2, .int a3, .int a4])).length) Slot.unset).toArray = ls at hl ⊢
  have hl : lv_has ls 9 [(0, .ref h0), (1, .int a1), (2, .int a2), (3, .int a3), (4, .int a4)] := hl
  refine lv_aload_n hx hb dX9_steps_0 rfl (lv_at hl 0 rfl) ?_
  refine lv_iload_n hx hb dX9_steps_1 rfl (lv_at hl 1 rfl) ?_
  refine lv_iload_n hx hb dX9_steps_2 rfl (lv_at hl 2 rfl) ?_
  refine vp_callSi (W.runV (As := [.int a1, .int a2]) (rest := []) ⟨hx, hb, hml, hown, hts⟩ (kX9_hasBoth l dC dI h0 tp sc rd cu im ig sl se su fc fa lu a1 a2) (cwV 2 hts gX9_steps__X9_hasBoth_V137 rfl rfl rfl (by decide +kernel) ⟨lel 2 2 rfl, lel 43 43 rfl⟩) ⟨pw_fb, va_recv hK hP (ci := 7) (q0 := 0) rfl rfl, (pw_use hP hK hN [0, 1] rfl [] rfl)⟩ rfl rfl hl.1 rfl (lv_room (Nat.le_of_ble_eq_true rfl)) dX9_steps_3 ⟨lel 0 0 rfl, lel 0 0 rfl⟩) (fun r_1 hr_1 => ?_)
  obtain rfl : r_1 = 0 := hr_1
  refine lv_if_eq (tgt := 29) hx hb dX9_steps_6 (by decide) (fun _ => ?_) (fun c_2 => absurd c_2 (by decide))
  refine lv_bipush (v := (-2)) hx hb dX9_steps_29 (by decide) ?_
  exact W.iret (v := (-2)) hx hb hr (fun t ht hW => ⟨(-2), rfl, rfl, ht⟩) t_nil dX9_steps_31
theorem dX9_chance_0 : decode cX9_chance 0 = .ok (.aload_n 0, 1) := by decide +kernel
theorem dX9_chance_1 : decode cX9_chance 1 = .ok (.getfield 35, 3) := by decide +kernel
theorem dX9_chance_4 : decode cX9_chance 4 = .ok (.iload_n 1, 1) := by decide +kernel
theorem dX9_chance_5 : decode cX9_chance 5 = .ok (.invokevirtual 149, 3) := by decide +kernel
theorem dX9_chance_8 : decode cX9_chance 8 = .ok (.ifCond .eq 12, 3) := by decide +kernel
theorem dX9_chance_20 : decode cX9_chance 20 = .ok (.bipush (-2), 2) := by decide +kernel
theorem dX9_chance_22 : decode cX9_chance 22 = .ok (.ireturn, 1) := by decide +kernel
def uX9_chance : List Cond := .code yX9_chance cX9_chance 3 (some .int) :: ([.fieldLink RX9 35 "LuckyTicket" "current" "LLuckyTicket$Roll;", .methodLink RX9 149 yX2_hasLaw, .instanceMethod yX2_hasLaw, .selects RX2 yX2_hasLaw yX2_hasLaw, .initialized RX2, .code yX2_hasLaw cX2_hasLaw 2 (some .boolean), .fieldLink RX2 33 "LuckyTicket$Roll" "laws" "I"] ++ wsX90 ++ wsX20)
theorem iX9_chance_X9 : ∀ w ∈ wsX90, w ∈ uX9_chance := fun _ h => List.mem_cons_of_mem _ (List.mem_append_left _ (List.mem_append_right _ h))
theorem iX9_chance_X2 : ∀ w ∈ wsX20, w ∈ uX9_chance := fun _ h => List.mem_cons_of_mem _ (List.mem_append_right _ h)
set_option maxRecDepth 20000 in
theorem gX9_chance__X2_hasLaw_V149 : GoodIn uX9_chance (wsV RX9 149 RX2 yX2_hasLaw uX2_hasLaw) := goodIn_p _ [6] rfl (by decide +kernel)
set_option maxHeartbeats 4000000 in
set_option maxRecDepth 100000 in
theorem kX9_chance (l : Launch) (dC : Nat → ClassId) (dI : Nat → Nat → Nat) (h0 : Nat) (tp : Nat) (sc : Nat) (rd : Nat) (cu : Nat) (im : Nat) (ig : Nat) (sl : Nat) (se : Nat) (su : Nat) (fc : Nat) (fa : Nat) (lu : Nat) (a1 : Int32) (a2 : Int32) : Met l yX9_chance uX9_chance ({ frames := 1, cells := 0, slots := 0, locals := 21 }) (va_Pc [.ref h0, .int a1, .int a2] (pw (dC, dI) vwCl [(h0, .inr (7, [.ref tp, .ref sc, .ref rd, .ref cu, .ref im, .ref ig, .ref sl, .ref se, .ref su, .ref fc])), (cu, .inr (1, [.int 0, .int 0, .int 0, .int 0, .int 0, .ref fa, .ref lu]))] [])) (vp_Si (fun r => r = (-2))) 0 0 (fun _ => False) := by
  refine Met.ofW (cc := cX9_chance) (maxL := 3) (ret := (some .int)) (by decide) rfl ?_
  intro p e s m args below meth c s₁ B hml hv
  obtain ⟨rfl, hP, hK, hN⟩ := hv
  have hx := B.exec
  have hb := B.bytes
  have hr := B.returns
  have hts := atoms_spec (ws := uX9_chance) B.pre
  have hown : s.vm.findClass RX9 = some m.cls := findClass_of_methodNamed B.named
  have hlocks := B.notSynchronized
  have hl := lv_entry ([.ref h0, .int a1, .int a2]) (n := 3) (Nat.le_of_ble_eq_true rfl)
  rw [lg_entry_eq]
  generalize (lg_sl ([.ref h0, .int a1, .int a2]) ++ List.replicate (3 - (lg_sl ([.ref h0, .int a1, .int a2])).length) Slot.unset).toArray = ls at hl ⊢
  have hl : lv_has ls 3 [(0, .ref h0), (1, .int a1), (2, .int a2)] := hl
  refine lv_aload_n hx hb dX9_chance_0 rfl (lv_at hl 0 rfl) ?_
  refine va_get (D := (dC, dI)) (ci := 7) (v := .ref cu) (C := RX9) (T := TX9) (N := 10) hx hb hts iX9_chance_X9 hown hK hP 0 rfl rfl 3 (by decide) (hts (.fieldLink RX9 35 "LuckyTicket" "current" "LLuckyTicket$Roll;") (List.mem_of_getElem? (i := 1) rfl)) (fun _ h9 => h9) rfl dX9_chance_1 ?_
  refine lv_iload_n hx hb dX9_chance_4 rfl (lv_at hl 1 rfl) ?_
  refine vp_callSi (W.runV (As := [.int a1]) (rest := []) ⟨hx, hb, hml, hown, hts⟩ (kX2_hasLaw l dC dI cu fa lu a1) (cwV 1 hts gX9_chance__X2_hasLaw_V149 rfl rfl rfl (by decide +kernel) ⟨lel 1 1 rfl, lel 21 21 rfl⟩) ⟨pw_fb, va_recv hK hP (ci := 1) (q0 := 1) rfl rfl, (pw_use hP hK hN [1] rfl [] rfl)⟩ rfl rfl hl.1 rfl (lv_room (Nat.le_of_ble_eq_true rfl)) dX9_chance_5 ⟨lel 0 0 rfl, lel 0 0 rfl⟩) (fun r_1 hr_1 => ?_)
  obtain rfl : r_1 = 0 := hr_1
  refine lv_if_eq (tgt := 20) hx hb dX9_chance_8 (by decide) (fun _ => ?_) (fun c_2 => absurd c_2 (by decide))
  refine lv_bipush (v := (-2)) hx hb dX9_chance_20 (by decide) ?_
  exact W.iret (v := (-2)) hx hb hr (fun t ht hW => ⟨(-2), rfl, rfl, ht⟩) t_nil dX9_chance_22
theorem dX9_share_0 : decode cX9_share 0 = .ok (.aload_n 0, 1) := by decide +kernel
theorem dX9_share_1 : decode cX9_share 1 = .ok (.getfield 35, 3) := by decide +kernel
theorem dX9_share_4 : decode cX9_share 4 = .ok (.iload_n 1, 1) := by decide +kernel
theorem dX9_share_5 : decode cX9_share 5 = .ok (.invokevirtual 149, 3) := by decide +kernel
theorem dX9_share_8 : decode cX9_share 8 = .ok (.ifCond .eq 12, 3) := by decide +kernel
theorem dX9_share_20 : decode cX9_share 20 = .ok (.bipush (-2), 2) := by decide +kernel
theorem dX9_share_22 : decode cX9_share 22 = .ok (.ireturn, 1) := by decide +kernel
def uX9_share : List Cond := .code yX9_share cX9_share 4 (some .int) :: ([.fieldLink RX9 35 "LuckyTicket" "current" "LLuckyTicket$Roll;", .methodLink RX9 149 yX2_hasLaw, .instanceMethod yX2_hasLaw, .selects RX2 yX2_hasLaw yX2_hasLaw, .initialized RX2, .code yX2_hasLaw cX2_hasLaw 2 (some .boolean), .fieldLink RX2 33 "LuckyTicket$Roll" "laws" "I"] ++ wsX90 ++ wsX20)
theorem iX9_share_X9 : ∀ w ∈ wsX90, w ∈ uX9_share := fun _ h => List.mem_cons_of_mem _ (List.mem_append_left _ (List.mem_append_right _ h))
theorem iX9_share_X2 : ∀ w ∈ wsX20, w ∈ uX9_share := fun _ h => List.mem_cons_of_mem _ (List.mem_append_right _ h)
set_option maxRecDepth 20000 in
theorem gX9_share__X2_hasLaw_V149 : GoodIn uX9_share (wsV RX9 149 RX2 yX2_hasLaw uX2_hasLaw) := goodIn_p _ [6] rfl (by decide +kernel)
set_option maxHeartbeats 4000000 in
set_option maxRecDepth 100000 in
theorem kX9_share (l : Launch) (dC : Nat → ClassId) (dI : Nat → Nat → Nat) (h0 : Nat) (tp : Nat) (sc : Nat) (rd : Nat) (cu : Nat) (im : Nat) (ig : Nat) (sl : Nat) (se : Nat) (su : Nat) (fc : Nat) (fa : Nat) (lu : Nat) (a1 : Int32) (a2 : Int32) : Met l yX9_share uX9_share ({ frames := 1, cells := 0, slots := 0, locals := 21 }) (va_Pc [.ref h0, .int a1, .int a2] (pw (dC, dI) vwCl [(h0, .inr (7, [.ref tp, .ref sc, .ref rd, .ref cu, .ref im, .ref ig, .ref sl, .ref se, .ref su, .ref fc])), (cu, .inr (1, [.int 0, .int 0, .int 0, .int 0, .int 0, .ref fa, .ref lu]))] [])) (vp_Si (fun r => r = (-2))) 0 0 (fun _ => False) := by
  refine Met.ofW (cc := cX9_share) (maxL := 4) (ret := (some .int)) (by decide) rfl ?_
  intro p e s m args below meth c s₁ B hml hv
  obtain ⟨rfl, hP, hK, hN⟩ := hv
  have hx := B.exec
  have hb := B.bytes
  have hr := B.returns
  have hts := atoms_spec (ws := uX9_share) B.pre
  have hown : s.vm.findClass RX9 = some m.cls := findClass_of_methodNamed B.named
  have hlocks := B.notSynchronized
  have hl := lv_entry ([.ref h0, .int a1, .int a2]) (n := 4) (Nat.le_of_ble_eq_true rfl)
  rw [lg_entry_eq]
  generalize (lg_sl ([.ref h0, .int a1, .int a2]) ++ List.replicate (4 - (lg_sl ([.ref h0, .int a1, .int a2])).length) Slot.unset).toArray = ls at hl ⊢
  have hl : lv_has ls 4 [(0, .ref h0), (1, .int a1), (2, .int a2)] := hl
  refine lv_aload_n hx hb dX9_share_0 rfl (lv_at hl 0 rfl) ?_
  refine va_get (D := (dC, dI)) (ci := 7) (v := .ref cu) (C := RX9) (T := TX9) (N := 10) hx hb hts iX9_share_X9 hown hK hP 0 rfl rfl 3 (by decide) (hts (.fieldLink RX9 35 "LuckyTicket" "current" "LLuckyTicket$Roll;") (List.mem_of_getElem? (i := 1) rfl)) (fun _ h9 => h9) rfl dX9_share_1 ?_
  refine lv_iload_n hx hb dX9_share_4 rfl (lv_at hl 1 rfl) ?_
  refine vp_callSi (W.runV (As := [.int a1]) (rest := []) ⟨hx, hb, hml, hown, hts⟩ (kX2_hasLaw l dC dI cu fa lu a1) (cwV 1 hts gX9_share__X2_hasLaw_V149 rfl rfl rfl (by decide +kernel) ⟨lel 1 1 rfl, lel 21 21 rfl⟩) ⟨pw_fb, va_recv hK hP (ci := 1) (q0 := 1) rfl rfl, (pw_use hP hK hN [1] rfl [] rfl)⟩ rfl rfl hl.1 rfl (lv_room (Nat.le_of_ble_eq_true rfl)) dX9_share_5 ⟨lel 0 0 rfl, lel 0 0 rfl⟩) (fun r_1 hr_1 => ?_)
  obtain rfl : r_1 = 0 := hr_1
  refine lv_if_eq (tgt := 20) hx hb dX9_share_8 (by decide) (fun _ => ?_) (fun c_2 => absurd c_2 (by decide))
  refine lv_bipush (v := (-2)) hx hb dX9_share_20 (by decide) ?_
  exact W.iret (v := (-2)) hx hb hr (fun t ht hW => ⟨(-2), rfl, rfl, ht⟩) t_nil dX9_share_22
theorem dX9_whose_0 : decode cX9_whose 0 = .ok (.aload_n 0, 1) := by decide +kernel
theorem dX9_whose_1 : decode cX9_whose 1 = .ok (.iload_n 1, 1) := by decide +kernel
theorem dX9_whose_2 : decode cX9_whose 2 = .ok (.iload_n 2, 1) := by decide +kernel
theorem dX9_whose_3 : decode cX9_whose 3 = .ok (.invokevirtual 137, 3) := by decide +kernel
theorem dX9_whose_6 : decode cX9_whose 6 = .ok (.ifCond .ne 6, 3) := by decide +kernel
theorem dX9_whose_9 : decode cX9_whose 9 = .ok (.bipush (-2), 2) := by decide +kernel
theorem dX9_whose_11 : decode cX9_whose 11 = .ok (.ireturn, 1) := by decide +kernel
def uX9_whose : List Cond := .code yX9_whose cX9_whose 4 (some .int) :: ([.methodLink RX9 137 yX9_hasBoth, .instanceMethod yX9_hasBoth, .selects RX9 yX9_hasBoth yX9_hasBoth, .initialized RX9, .code yX9_hasBoth cX9_hasBoth 3 (some .boolean), .fieldLink RX9 35 "LuckyTicket" "current" "LLuckyTicket$Roll;", .methodLink RX9 149 yX2_hasLaw, .instanceMethod yX2_hasLaw, .selects RX2 yX2_hasLaw yX2_hasLaw, .initialized RX2, .code yX2_hasLaw cX2_hasLaw 2 (some .boolean), .fieldLink RX2 33 "LuckyTicket$Roll" "laws" "I"] ++ wsX90 ++ wsX20)
theorem iX9_whose_X9 : ∀ w ∈ wsX90, w ∈ uX9_whose := fun _ h => List.mem_cons_of_mem _ (List.mem_append_left _ (List.mem_append_right _ h))
theorem iX9_whose_X2 : ∀ w ∈ wsX20, w ∈ uX9_whose := fun _ h => List.mem_cons_of_mem _ (List.mem_append_right _ h)
set_option maxRecDepth 20000 in
theorem gX9_whose__X9_hasBoth_V137 : GoodIn uX9_whose (wsV RX9 137 RX9 yX9_hasBoth uX9_hasBoth) := goodIn_p _ [5, 11] rfl (by decide +kernel)
set_option maxHeartbeats 4000000 in
set_option maxRecDepth 100000 in
theorem kX9_whose (l : Launch) (dC : Nat → ClassId) (dI : Nat → Nat → Nat) (h0 : Nat) (tp : Nat) (sc : Nat) (rd : Nat) (cu : Nat) (im : Nat) (ig : Nat) (sl : Nat) (se : Nat) (su : Nat) (fc : Nat) (fa : Nat) (lu : Nat) (a1 : Int32) (a2 : Int32) : Met l yX9_whose uX9_whose ({ frames := 2, cells := 0, slots := 0, locals := 43 }) (va_Pc [.ref h0, .int a1, .int a2] (pw (dC, dI) vwCl [(h0, .inr (7, [.ref tp, .ref sc, .ref rd, .ref cu, .ref im, .ref ig, .ref sl, .ref se, .ref su, .ref fc])), (cu, .inr (1, [.int 0, .int 0, .int 0, .int 0, .int 0, .ref fa, .ref lu]))] [])) (vp_Si (fun r => r = (-2))) 0 0 (fun _ => False) := by
  refine Met.ofW (cc := cX9_whose) (maxL := 4) (ret := (some .int)) (by decide) rfl ?_
  intro p e s m args below meth c s₁ B hml hv
  obtain ⟨rfl, hP, hK, hN⟩ := hv
  have hx := B.exec
  have hb := B.bytes
  have hr := B.returns
  have hts := atoms_spec (ws := uX9_whose) B.pre
  have hown : s.vm.findClass RX9 = some m.cls := findClass_of_methodNamed B.named
  have hlocks := B.notSynchronized
  have hl := lv_entry ([.ref h0, .int a1, .int a2]) (n := 4) (Nat.le_of_ble_eq_true rfl)
  rw [lg_entry_eq]
  generalize (lg_sl ([.ref h0, .int a1, .int a2]) ++ List.replicate (4 - (lg_sl ([.ref h0, .int a1, .int a2])).length) Slot.unset).toArray = ls at hl ⊢
  have hl : lv_has ls 4 [(0, .ref h0), (1, .int a1), (2, .int a2)] := hl
  refine lv_aload_n hx hb dX9_whose_0 rfl (lv_at hl 0 rfl) ?_
  refine lv_iload_n hx hb dX9_whose_1 rfl (lv_at hl 1 rfl) ?_
  refine lv_iload_n hx hb dX9_whose_2 rfl (lv_at hl 2 rfl) ?_
  refine vp_callSi (W.runV (As := [.int a1, .int a2]) (rest := []) ⟨hx, hb, hml, hown, hts⟩ (kX9_hasBoth l dC dI h0 tp sc rd cu im ig sl se su fc fa lu a1 a2) (cwV 2 hts gX9_whose__X9_hasBoth_V137 rfl rfl rfl (by decide +kernel) ⟨lel 2 2 rfl, lel 43 43 rfl⟩) ⟨pw_fb, va_recv hK hP (ci := 7) (q0 := 0) rfl rfl, (pw_use hP hK hN [0, 1] rfl [] rfl)⟩ rfl rfl hl.1 rfl (lv_room (Nat.le_of_ble_eq_true rfl)) dX9_whose_3 ⟨lel 0 0 rfl, lel 0 0 rfl⟩) (fun r_1 hr_1 => ?_)
  obtain rfl : r_1 = 0 := hr_1
  refine lv_if_ne (tgt := 12) hx hb dX9_whose_6 (by decide) (fun c_2 => absurd c_2 (by decide)) (fun _ => ?_)
  refine lv_bipush (v := (-2)) hx hb dX9_whose_9 (by decide) ?_
  exact W.iret (v := (-2)) hx hb hr (fun t ht hW => ⟨(-2), rfl, rfl, ht⟩) t_nil dX9_whose_11
theorem dX9_both_0 : decode cX9_both 0 = .ok (.aload_n 0, 1) := by decide +kernel
theorem dX9_both_1 : decode cX9_both 1 = .ok (.getfield 35, 3) := by decide +kernel
theorem dX9_both_4 : decode cX9_both 4 = .ok (.iload_n 1, 1) := by decide +kernel
theorem dX9_both_5 : decode cX9_both 5 = .ok (.invokevirtual 191, 3) := by decide +kernel
theorem dX9_both_8 : decode cX9_both 8 = .ok (.ifCond .ne 6, 3) := by decide +kernel
theorem dX9_both_11 : decode cX9_both 11 = .ok (.bipush (-2), 2) := by decide +kernel
theorem dX9_both_13 : decode cX9_both 13 = .ok (.ireturn, 1) := by decide +kernel
def uX9_both : List Cond := .code yX9_both cX9_both 4 (some .int) :: ([.fieldLink RX9 35 "LuckyTicket" "current" "LLuckyTicket$Roll;", .methodLink RX9 191 yX2_hasSet, .instanceMethod yX2_hasSet, .selects RX2 yX2_hasSet yX2_hasSet, .initialized RX2, .code yX2_hasSet cX2_hasSet 2 (some .boolean), .methodLink RX2 59 yX2_stands, .instanceMethod yX2_stands, .selects RX2 yX2_stands yX2_stands, .code yX2_stands cX2_stands 1 (some .boolean), .fieldLink RX2 42 "LuckyTicket$Roll" "tickets" "I"] ++ wsX90 ++ wsX20)
theorem iX9_both_X9 : ∀ w ∈ wsX90, w ∈ uX9_both := fun _ h => List.mem_cons_of_mem _ (List.mem_append_left _ (List.mem_append_right _ h))
theorem iX9_both_X2 : ∀ w ∈ wsX20, w ∈ uX9_both := fun _ h => List.mem_cons_of_mem _ (List.mem_append_right _ h)
set_option maxRecDepth 20000 in
theorem gX9_both__X2_hasSet_V191 : GoodIn uX9_both (wsV RX9 191 RX2 yX2_hasSet uX2_hasSet) := goodIn_p _ [6, 10] rfl (by decide +kernel)
set_option maxHeartbeats 4000000 in
set_option maxRecDepth 100000 in
theorem kX9_both (l : Launch) (dC : Nat → ClassId) (dI : Nat → Nat → Nat) (h0 : Nat) (tp : Nat) (sc : Nat) (rd : Nat) (cu : Nat) (im : Nat) (ig : Nat) (sl : Nat) (se : Nat) (su : Nat) (fc : Nat) (fa : Nat) (lu : Nat) (a1 : Int32) : Met l yX9_both uX9_both ({ frames := 2, cells := 0, slots := 0, locals := 41 }) (va_Pc [.ref h0, .int a1] (pw (dC, dI) vwCl [(h0, .inr (7, [.ref tp, .ref sc, .ref rd, .ref cu, .ref im, .ref ig, .ref sl, .ref se, .ref su, .ref fc])), (cu, .inr (1, [.int 0, .int 0, .int 0, .int 0, .int 0, .ref fa, .ref lu]))] [])) (vp_Si (fun r => r = (-2))) 0 0 (fun _ => False) := by
  refine Met.ofW (cc := cX9_both) (maxL := 4) (ret := (some .int)) (by decide) rfl ?_
  intro p e s m args below meth c s₁ B hml hv
  obtain ⟨rfl, hP, hK, hN⟩ := hv
  have hx := B.exec
  have hb := B.bytes
  have hr := B.returns
  have hts := atoms_spec (ws := uX9_both) B.pre
  have hown : s.vm.findClass RX9 = some m.cls := findClass_of_methodNamed B.named
  have hlocks := B.notSynchronized
  have hl := lv_entry ([.ref h0, .int a1]) (n := 4) (Nat.le_of_ble_eq_true rfl)
  rw [lg_entry_eq]
  generalize (lg_sl ([.ref h0, .int a1]) ++ List.replicate (4 - (lg_sl ([.ref h0, .int a1])).length) Slot.unset).toArray = ls at hl ⊢
  have hl : lv_has ls 4 [(0, .ref h0), (1, .int a1)] := hl
  refine lv_aload_n hx hb dX9_both_0 rfl (lv_at hl 0 rfl) ?_
  refine va_get (D := (dC, dI)) (ci := 7) (v := .ref cu) (C := RX9) (T := TX9) (N := 10) hx hb hts iX9_both_X9 hown hK hP 0 rfl rfl 3 (by decide) (hts (.fieldLink RX9 35 "LuckyTicket" "current" "LLuckyTicket$Roll;") (List.mem_of_getElem? (i := 1) rfl)) (fun _ h9 => h9) rfl dX9_both_1 ?_
  refine lv_iload_n hx hb dX9_both_4 rfl (lv_at hl 1 rfl) ?_
  refine vp_callSi (W.runV (As := [.int a1]) (rest := []) ⟨hx, hb, hml, hown, hts⟩ (kX2_hasSet l dC dI cu fa lu a1) (cwV 1 hts gX9_both__X2_hasSet_V191 rfl rfl rfl (by decide +kernel) ⟨lel 2 2 rfl, lel 41 41 rfl⟩) ⟨pw_fb, va_recv hK hP (ci := 1) (q0 := 1) rfl rfl, (pw_use hP hK hN [1] rfl [] rfl)⟩ rfl rfl hl.1 rfl (lv_room (Nat.le_of_ble_eq_true rfl)) dX9_both_5 ⟨lel 0 0 rfl, lel 0 0 rfl⟩) (fun r_1 hr_1 => ?_)
  obtain rfl : r_1 = 0 := hr_1
  refine lv_if_ne (tgt := 14) hx hb dX9_both_8 (by decide) (fun c_2 => absurd c_2 (by decide)) (fun _ => ?_)
  refine lv_bipush (v := (-2)) hx hb dX9_both_11 (by decide) ?_
  exact W.iret (v := (-2)) hx hb hr (fun t ht hW => ⟨(-2), rfl, rfl, ht⟩) t_nil dX9_both_13
theorem dX9_just_0 : decode cX9_just 0 = .ok (.aload_n 0, 1) := by decide +kernel
theorem dX9_just_1 : decode cX9_just 1 = .ok (.getfield 35, 3) := by decide +kernel
theorem dX9_just_4 : decode cX9_just 4 = .ok (.iload_n 1, 1) := by decide +kernel
theorem dX9_just_5 : decode cX9_just 5 = .ok (.invokevirtual 191, 3) := by decide +kernel
theorem dX9_just_8 : decode cX9_just 8 = .ok (.ifCond .ne 6, 3) := by decide +kernel
theorem dX9_just_11 : decode cX9_just 11 = .ok (.bipush (-2), 2) := by decide +kernel
theorem dX9_just_13 : decode cX9_just 13 = .ok (.ireturn, 1) := by decide +kernel
def uX9_just : List Cond := .code yX9_just cX9_just 4 (some .int) :: ([.fieldLink RX9 35 "LuckyTicket" "current" "LLuckyTicket$Roll;", .methodLink RX9 191 yX2_hasSet, .instanceMethod yX2_hasSet, .selects RX2 yX2_hasSet yX2_hasSet, .initialized RX2, .code yX2_hasSet cX2_hasSet 2 (some .boolean), .methodLink RX2 59 yX2_stands, .instanceMethod yX2_stands, .selects RX2 yX2_stands yX2_stands, .code yX2_stands cX2_stands 1 (some .boolean), .fieldLink RX2 42 "LuckyTicket$Roll" "tickets" "I"] ++ wsX90 ++ wsX20)
theorem iX9_just_X9 : ∀ w ∈ wsX90, w ∈ uX9_just := fun _ h => List.mem_cons_of_mem _ (List.mem_append_left _ (List.mem_append_right _ h))
theorem iX9_just_X2 : ∀ w ∈ wsX20, w ∈ uX9_just := fun _ h => List.mem_cons_of_mem _ (List.mem_append_right _ h)
set_option maxRecDepth 20000 in
theorem gX9_just__X2_hasSet_V191 : GoodIn uX9_just (wsV RX9 191 RX2 yX2_hasSet uX2_hasSet) := goodIn_p _ [6, 10] rfl (by decide +kernel)
set_option maxHeartbeats 4000000 in
set_option maxRecDepth 100000 in
theorem kX9_just (l : Launch) (dC : Nat → ClassId) (dI : Nat → Nat → Nat) (h0 : Nat) (tp : Nat) (sc : Nat) (rd : Nat) (cu : Nat) (im : Nat) (ig : Nat) (sl : Nat) (se : Nat) (su : Nat) (fc : Nat) (fa : Nat) (lu : Nat) (a1 : Int32) : Met l yX9_just uX9_just ({ frames := 2, cells := 0, slots := 0, locals := 41 }) (va_Pc [.ref h0, .int a1] (pw (dC, dI) vwCl [(h0, .inr (7, [.ref tp, .ref sc, .ref rd, .ref cu, .ref im, .ref ig, .ref sl, .ref se, .ref su, .ref fc])), (cu, .inr (1, [.int 0, .int 0, .int 0, .int 0, .int 0, .ref fa, .ref lu]))] [])) (vp_Si (fun r => r = (-2))) 0 0 (fun _ => False) := by
  refine Met.ofW (cc := cX9_just) (maxL := 4) (ret := (some .int)) (by decide) rfl ?_
  intro p e s m args below meth c s₁ B hml hv
  obtain ⟨rfl, hP, hK, hN⟩ := hv
  have hx := B.exec
  have hb := B.bytes
  have hr := B.returns
  have hts := atoms_spec (ws := uX9_just) B.pre
  have hown : s.vm.findClass RX9 = some m.cls := findClass_of_methodNamed B.named
  have hlocks := B.notSynchronized
  have hl := lv_entry ([.ref h0, .int a1]) (n := 4) (Nat.le_of_ble_eq_true rfl)
  rw [lg_entry_eq]
  generalize (lg_sl ([.ref h0, .int a1]) ++ List.replicate (4 - (lg_sl ([.ref h0, .int a1])).length) Slot.unset).toArray = ls at hl ⊢
  have hl : lv_has ls 4 [(0, .ref h0), (1, .int a1)] := hl
  refine lv_aload_n hx hb dX9_just_0 rfl (lv_at hl 0 rfl) ?_
  refine va_get (D := (dC, dI)) (ci := 7) (v := .ref cu) (C := RX9) (T := TX9) (N := 10) hx hb hts iX9_just_X9 hown hK hP 0 rfl rfl 3 (by decide) (hts (.fieldLink RX9 35 "LuckyTicket" "current" "LLuckyTicket$Roll;") (List.mem_of_getElem? (i := 1) rfl)) (fun _ h9 => h9) rfl dX9_just_1 ?_
  refine lv_iload_n hx hb dX9_just_4 rfl (lv_at hl 1 rfl) ?_
  refine vp_callSi (W.runV (As := [.int a1]) (rest := []) ⟨hx, hb, hml, hown, hts⟩ (kX2_hasSet l dC dI cu fa lu a1) (cwV 1 hts gX9_just__X2_hasSet_V191 rfl rfl rfl (by decide +kernel) ⟨lel 2 2 rfl, lel 41 41 rfl⟩) ⟨pw_fb, va_recv hK hP (ci := 1) (q0 := 1) rfl rfl, (pw_use hP hK hN [1] rfl [] rfl)⟩ rfl rfl hl.1 rfl (lv_room (Nat.le_of_ble_eq_true rfl)) dX9_just_5 ⟨lel 0 0 rfl, lel 0 0 rfl⟩) (fun r_1 hr_1 => ?_)
  obtain rfl : r_1 = 0 := hr_1
  refine lv_if_ne (tgt := 14) hx hb dX9_just_8 (by decide) (fun c_2 => absurd c_2 (by decide)) (fun _ => ?_)
  refine lv_bipush (v := (-2)) hx hb dX9_just_11 (by decide) ?_
  exact W.iret (v := (-2)) hx hb hr (fun t ht hW => ⟨(-2), rfl, rfl, ht⟩) t_nil dX9_just_13
theorem dX9_so_0 : decode cX9_so 0 = .ok (.aload_n 0, 1) := by decide +kernel
theorem dX9_so_1 : decode cX9_so 1 = .ok (.getfield 35, 3) := by decide +kernel
theorem dX9_so_4 : decode cX9_so 4 = .ok (.invokevirtual 194, 3) := by decide +kernel
theorem dX9_so_7 : decode cX9_so 7 = .ok (.ifCond .eq 13, 3) := by decide +kernel
theorem dX9_so_20 : decode cX9_so 20 = .ok (.bipush (-2), 2) := by decide +kernel
theorem dX9_so_22 : decode cX9_so 22 = .ok (.ireturn, 1) := by decide +kernel
def uX9_so : List Cond := .code yX9_so cX9_so 4 (some .int) :: ([.fieldLink RX9 35 "LuckyTicket" "current" "LLuckyTicket$Roll;", .methodLink RX9 194 yX2_stands, .instanceMethod yX2_stands, .selects RX2 yX2_stands yX2_stands, .initialized RX2, .code yX2_stands cX2_stands 1 (some .boolean), .fieldLink RX2 42 "LuckyTicket$Roll" "tickets" "I"] ++ wsX90 ++ wsX20)
theorem iX9_so_X9 : ∀ w ∈ wsX90, w ∈ uX9_so := fun _ h => List.mem_cons_of_mem _ (List.mem_append_left _ (List.mem_append_right _ h))
theorem iX9_so_X2 : ∀ w ∈ wsX20, w ∈ uX9_so := fun _ h => List.mem_cons_of_mem _ (List.mem_append_right _ h)
set_option maxRecDepth 20000 in
theorem gX9_so__X2_stands_V194 : GoodIn uX9_so (wsV RX9 194 RX2 yX2_stands uX2_stands) := goodIn_p _ [6] rfl (by decide +kernel)
set_option maxHeartbeats 4000000 in
set_option maxRecDepth 100000 in
theorem kX9_so (l : Launch) (dC : Nat → ClassId) (dI : Nat → Nat → Nat) (h0 : Nat) (tp : Nat) (sc : Nat) (rd : Nat) (cu : Nat) (im : Nat) (ig : Nat) (sl : Nat) (se : Nat) (su : Nat) (fc : Nat) (fa : Nat) (lu : Nat) (a1 : Int32) : Met l yX9_so uX9_so ({ frames := 1, cells := 0, slots := 0, locals := 20 }) (va_Pc [.ref h0, .int a1] (pw (dC, dI) vwCl [(h0, .inr (7, [.ref tp, .ref sc, .ref rd, .ref cu, .ref im, .ref ig, .ref sl, .ref se, .ref su, .ref fc])), (cu, .inr (1, [.int 0, .int 0, .int 0, .int 0, .int 0, .ref fa, .ref lu]))] [])) (vp_Si (fun r => r = (-2))) 0 0 (fun _ => False) := by
  refine Met.ofW (cc := cX9_so) (maxL := 4) (ret := (some .int)) (by decide) rfl ?_
  intro p e s m args below meth c s₁ B hml hv
  obtain ⟨rfl, hP, hK, hN⟩ := hv
  have hx := B.exec
  have hb := B.bytes
  have hr := B.returns
  have hts := atoms_spec (ws := uX9_so) B.pre
  have hown : s.vm.findClass RX9 = some m.cls := findClass_of_methodNamed B.named
  have hlocks := B.notSynchronized
  have hl := lv_entry ([.ref h0, .int a1]) (n := 4) (Nat.le_of_ble_eq_true rfl)
  rw [lg_entry_eq]
  generalize (lg_sl ([.ref h0, .int a1]) ++ List.replicate (4 - (lg_sl ([.ref h0, .int a1])).length) Slot.unset).toArray = ls at hl ⊢
  have hl : lv_has ls 4 [(0, .ref h0), (1, .int a1)] := hl
  refine lv_aload_n hx hb dX9_so_0 rfl (lv_at hl 0 rfl) ?_
  refine va_get (D := (dC, dI)) (ci := 7) (v := .ref cu) (C := RX9) (T := TX9) (N := 10) hx hb hts iX9_so_X9 hown hK hP 0 rfl rfl 3 (by decide) (hts (.fieldLink RX9 35 "LuckyTicket" "current" "LLuckyTicket$Roll;") (List.mem_of_getElem? (i := 1) rfl)) (fun _ h9 => h9) rfl dX9_so_1 ?_
  refine vp_callSi (W.runV (As := []) (rest := []) ⟨hx, hb, hml, hown, hts⟩ (kX2_stands l dC dI cu fa lu) (cwV 0 hts gX9_so__X2_stands_V194 rfl rfl rfl (by decide +kernel) ⟨lel 1 1 rfl, lel 20 20 rfl⟩) ⟨pw_fb, va_recv hK hP (ci := 1) (q0 := 1) rfl rfl, (pw_use hP hK hN [1] rfl [] rfl)⟩ rfl rfl hl.1 rfl (lv_room (Nat.le_of_ble_eq_true rfl)) dX9_so_4 ⟨lel 0 0 rfl, lel 0 0 rfl⟩) (fun r_1 hr_1 => ?_)
  obtain rfl : r_1 = 0 := hr_1
  refine lv_if_eq (tgt := 20) hx hb dX9_so_7 (by decide) (fun _ => ?_) (fun c_2 => absurd c_2 (by decide))
  refine lv_bipush (v := (-2)) hx hb dX9_so_20 (by decide) ?_
  exact W.iret (v := (-2)) hx hb hr (fun t ht hW => ⟨(-2), rfl, rfl, ht⟩) t_nil dX9_so_22
theorem dX9_alike_0 : decode cX9_alike 0 = .ok (.aload_n 0, 1) := by decide +kernel
theorem dX9_alike_1 : decode cX9_alike 1 = .ok (.getfield 35, 3) := by decide +kernel
theorem dX9_alike_4 : decode cX9_alike 4 = .ok (.iload_n 1, 1) := by decide +kernel
theorem dX9_alike_5 : decode cX9_alike 5 = .ok (.invokevirtual 149, 3) := by decide +kernel
theorem dX9_alike_8 : decode cX9_alike 8 = .ok (.ifCond .eq 14, 3) := by decide +kernel
theorem dX9_alike_22 : decode cX9_alike 22 = .ok (.bipush (-2), 2) := by decide +kernel
theorem dX9_alike_24 : decode cX9_alike 24 = .ok (.ireturn, 1) := by decide +kernel
def uX9_alike : List Cond := .code yX9_alike cX9_alike 3 (some .int) :: ([.fieldLink RX9 35 "LuckyTicket" "current" "LLuckyTicket$Roll;", .methodLink RX9 149 yX2_hasLaw, .instanceMethod yX2_hasLaw, .selects RX2 yX2_hasLaw yX2_hasLaw, .initialized RX2, .code yX2_hasLaw cX2_hasLaw 2 (some .boolean), .fieldLink RX2 33 "LuckyTicket$Roll" "laws" "I"] ++ wsX90 ++ wsX20)
theorem iX9_alike_X9 : ∀ w ∈ wsX90, w ∈ uX9_alike := fun _ h => List.mem_cons_of_mem _ (List.mem_append_left _ (List.mem_append_right _ h))
theorem iX9_alike_X2 : ∀ w ∈ wsX20, w ∈ uX9_alike := fun _ h => List.mem_cons_of_mem _ (List.mem_append_right _ h)
set_option maxRecDepth 20000 in
theorem gX9_alike__X2_hasLaw_V149 : GoodIn uX9_alike (wsV RX9 149 RX2 yX2_hasLaw uX2_hasLaw) := goodIn_p _ [6] rfl (by decide +kernel)
set_option maxHeartbeats 4000000 in
set_option maxRecDepth 100000 in
theorem kX9_alike (l : Launch) (dC : Nat → ClassId) (dI : Nat → Nat → Nat) (h0 : Nat) (tp : Nat) (sc : Nat) (rd : Nat) (cu : Nat) (im : Nat) (ig : Nat) (sl : Nat) (se : Nat) (su : Nat) (fc : Nat) (fa : Nat) (lu : Nat) (a1 : Int32) (a2 : Int32) : Met l yX9_alike uX9_alike ({ frames := 1, cells := 0, slots := 0, locals := 21 }) (va_Pc [.ref h0, .int a1, .int a2] (pw (dC, dI) vwCl [(h0, .inr (7, [.ref tp, .ref sc, .ref rd, .ref cu, .ref im, .ref ig, .ref sl, .ref se, .ref su, .ref fc])), (cu, .inr (1, [.int 0, .int 0, .int 0, .int 0, .int 0, .ref fa, .ref lu]))] [])) (vp_Si (fun r => r = (-2))) 0 0 (fun _ => False) := by
  refine Met.ofW (cc := cX9_alike) (maxL := 3) (ret := (some .int)) (by decide) rfl ?_
  intro p e s m args below meth c s₁ B hml hv
  obtain ⟨rfl, hP, hK, hN⟩ := hv
  have hx := B.exec
  have hb := B.bytes
  have hr := B.returns
  have hts := atoms_spec (ws := uX9_alike) B.pre
  have hown : s.vm.findClass RX9 = some m.cls := findClass_of_methodNamed B.named
  have hlocks := B.notSynchronized
  have hl := lv_entry ([.ref h0, .int a1, .int a2]) (n := 3) (Nat.le_of_ble_eq_true rfl)
  rw [lg_entry_eq]
  generalize (lg_sl ([.ref h0, .int a1, .int a2]) ++ List.replicate (3 - (lg_sl ([.ref h0, .int a1, .int a2])).length) Slot.unset).toArray = ls at hl ⊢
  have hl : lv_has ls 3 [(0, .ref h0), (1, .int a1), (2, .int a2)] := hl
  refine lv_aload_n hx hb dX9_alike_0 rfl (lv_at hl 0 rfl) ?_
  refine va_get (D := (dC, dI)) (ci := 7) (v := .ref cu) (C := RX9) (T := TX9) (N := 10) hx hb hts iX9_alike_X9 hown hK hP 0 rfl rfl 3 (by decide) (hts (.fieldLink RX9 35 "LuckyTicket" "current" "LLuckyTicket$Roll;") (List.mem_of_getElem? (i := 1) rfl)) (fun _ h9 => h9) rfl dX9_alike_1 ?_
  refine lv_iload_n hx hb dX9_alike_4 rfl (lv_at hl 1 rfl) ?_
  refine vp_callSi (W.runV (As := [.int a1]) (rest := []) ⟨hx, hb, hml, hown, hts⟩ (kX2_hasLaw l dC dI cu fa lu a1) (cwV 1 hts gX9_alike__X2_hasLaw_V149 rfl rfl rfl (by decide +kernel) ⟨lel 1 1 rfl, lel 21 21 rfl⟩) ⟨pw_fb, va_recv hK hP (ci := 1) (q0 := 1) rfl rfl, (pw_use hP hK hN [1] rfl [] rfl)⟩ rfl rfl hl.1 rfl (lv_room (Nat.le_of_ble_eq_true rfl)) dX9_alike_5 ⟨lel 0 0 rfl, lel 0 0 rfl⟩) (fun r_1 hr_1 => ?_)
  obtain rfl : r_1 = 0 := hr_1
  refine lv_if_eq (tgt := 22) hx hb dX9_alike_8 (by decide) (fun _ => ?_) (fun c_2 => absurd c_2 (by decide))
  refine lv_bipush (v := (-2)) hx hb dX9_alike_22 (by decide) ?_
  exact W.iret (v := (-2)) hx hb hr (fun t ht hW => ⟨(-2), rfl, rfl, ht⟩) t_nil dX9_alike_24
theorem dX9_differ_0 : decode cX9_differ 0 = .ok (.aload_n 0, 1) := by decide +kernel
theorem dX9_differ_1 : decode cX9_differ 1 = .ok (.getfield 35, 3) := by decide +kernel
theorem dX9_differ_4 : decode cX9_differ 4 = .ok (.iload_n 1, 1) := by decide +kernel
theorem dX9_differ_5 : decode cX9_differ 5 = .ok (.invokevirtual 149, 3) := by decide +kernel
theorem dX9_differ_8 : decode cX9_differ 8 = .ok (.ifCond .eq 14, 3) := by decide +kernel
theorem dX9_differ_22 : decode cX9_differ 22 = .ok (.bipush (-2), 2) := by decide +kernel
theorem dX9_differ_24 : decode cX9_differ 24 = .ok (.ireturn, 1) := by decide +kernel
def uX9_differ : List Cond := .code yX9_differ cX9_differ 3 (some .int) :: ([.fieldLink RX9 35 "LuckyTicket" "current" "LLuckyTicket$Roll;", .methodLink RX9 149 yX2_hasLaw, .instanceMethod yX2_hasLaw, .selects RX2 yX2_hasLaw yX2_hasLaw, .initialized RX2, .code yX2_hasLaw cX2_hasLaw 2 (some .boolean), .fieldLink RX2 33 "LuckyTicket$Roll" "laws" "I"] ++ wsX90 ++ wsX20)
theorem iX9_differ_X9 : ∀ w ∈ wsX90, w ∈ uX9_differ := fun _ h => List.mem_cons_of_mem _ (List.mem_append_left _ (List.mem_append_right _ h))
theorem iX9_differ_X2 : ∀ w ∈ wsX20, w ∈ uX9_differ := fun _ h => List.mem_cons_of_mem _ (List.mem_append_right _ h)
set_option maxRecDepth 20000 in
theorem gX9_differ__X2_hasLaw_V149 : GoodIn uX9_differ (wsV RX9 149 RX2 yX2_hasLaw uX2_hasLaw) := goodIn_p _ [6] rfl (by decide +kernel)
set_option maxHeartbeats 4000000 in
set_option maxRecDepth 100000 in
theorem kX9_differ (l : Launch) (dC : Nat → ClassId) (dI : Nat → Nat → Nat) (h0 : Nat) (tp : Nat) (sc : Nat) (rd : Nat) (cu : Nat) (im : Nat) (ig : Nat) (sl : Nat) (se : Nat) (su : Nat) (fc : Nat) (fa : Nat) (lu : Nat) (a1 : Int32) (a2 : Int32) : Met l yX9_differ uX9_differ ({ frames := 1, cells := 0, slots := 0, locals := 21 }) (va_Pc [.ref h0, .int a1, .int a2] (pw (dC, dI) vwCl [(h0, .inr (7, [.ref tp, .ref sc, .ref rd, .ref cu, .ref im, .ref ig, .ref sl, .ref se, .ref su, .ref fc])), (cu, .inr (1, [.int 0, .int 0, .int 0, .int 0, .int 0, .ref fa, .ref lu]))] [])) (vp_Si (fun r => r = (-2))) 0 0 (fun _ => False) := by
  refine Met.ofW (cc := cX9_differ) (maxL := 3) (ret := (some .int)) (by decide) rfl ?_
  intro p e s m args below meth c s₁ B hml hv
  obtain ⟨rfl, hP, hK, hN⟩ := hv
  have hx := B.exec
  have hb := B.bytes
  have hr := B.returns
  have hts := atoms_spec (ws := uX9_differ) B.pre
  have hown : s.vm.findClass RX9 = some m.cls := findClass_of_methodNamed B.named
  have hlocks := B.notSynchronized
  have hl := lv_entry ([.ref h0, .int a1, .int a2]) (n := 3) (Nat.le_of_ble_eq_true rfl)
  rw [lg_entry_eq]
  generalize (lg_sl ([.ref h0, .int a1, .int a2]) ++ List.replicate (3 - (lg_sl ([.ref h0, .int a1, .int a2])).length) Slot.unset).toArray = ls at hl ⊢
  have hl : lv_has ls 3 [(0, .ref h0), (1, .int a1), (2, .int a2)] := hl
  refine lv_aload_n hx hb dX9_differ_0 rfl (lv_at hl 0 rfl) ?_
  refine va_get (D := (dC, dI)) (ci := 7) (v := .ref cu) (C := RX9) (T := TX9) (N := 10) hx hb hts iX9_differ_X9 hown hK hP 0 rfl rfl 3 (by decide) (hts (.fieldLink RX9 35 "LuckyTicket" "current" "LLuckyTicket$Roll;") (List.mem_of_getElem? (i := 1) rfl)) (fun _ h9 => h9) rfl dX9_differ_1 ?_
  refine lv_iload_n hx hb dX9_differ_4 rfl (lv_at hl 1 rfl) ?_
  refine vp_callSi (W.runV (As := [.int a1]) (rest := []) ⟨hx, hb, hml, hown, hts⟩ (kX2_hasLaw l dC dI cu fa lu a1) (cwV 1 hts gX9_differ__X2_hasLaw_V149 rfl rfl rfl (by decide +kernel) ⟨lel 1 1 rfl, lel 21 21 rfl⟩) ⟨pw_fb, va_recv hK hP (ci := 1) (q0 := 1) rfl rfl, (pw_use hP hK hN [1] rfl [] rfl)⟩ rfl rfl hl.1 rfl (lv_room (Nat.le_of_ble_eq_true rfl)) dX9_differ_5 ⟨lel 0 0 rfl, lel 0 0 rfl⟩) (fun r_1 hr_1 => ?_)
  obtain rfl : r_1 = 0 := hr_1
  refine lv_if_eq (tgt := 22) hx hb dX9_differ_8 (by decide) (fun _ => ?_) (fun c_2 => absurd c_2 (by decide))
  refine lv_bipush (v := (-2)) hx hb dX9_differ_22 (by decide) ?_
  exact W.iret (v := (-2)) hx hb hr (fun t ht hW => ⟨(-2), rfl, rfl, ht⟩) t_nil dX9_differ_24
theorem dX9_mend_0 : decode cX9_mend 0 = .ok (.aload_n 0, 1) := by decide +kernel
theorem dX9_mend_1 : decode cX9_mend 1 = .ok (.iload_n 1, 1) := by decide +kernel
theorem dX9_mend_2 : decode cX9_mend 2 = .ok (.iload_n 2, 1) := by decide +kernel
theorem dX9_mend_3 : decode cX9_mend 3 = .ok (.invokevirtual 137, 3) := by decide +kernel
theorem dX9_mend_6 : decode cX9_mend 6 = .ok (.ifCond .eq 15, 3) := by decide +kernel
theorem dX9_mend_21 : decode cX9_mend 21 = .ok (.bipush (-2), 2) := by decide +kernel
theorem dX9_mend_23 : decode cX9_mend 23 = .ok (.ireturn, 1) := by decide +kernel
def uX9_mend : List Cond := .code yX9_mend cX9_mend 3 (some .int) :: ([.methodLink RX9 137 yX9_hasBoth, .instanceMethod yX9_hasBoth, .selects RX9 yX9_hasBoth yX9_hasBoth, .initialized RX9, .code yX9_hasBoth cX9_hasBoth 3 (some .boolean), .fieldLink RX9 35 "LuckyTicket" "current" "LLuckyTicket$Roll;", .methodLink RX9 149 yX2_hasLaw, .instanceMethod yX2_hasLaw, .selects RX2 yX2_hasLaw yX2_hasLaw, .initialized RX2, .code yX2_hasLaw cX2_hasLaw 2 (some .boolean), .fieldLink RX2 33 "LuckyTicket$Roll" "laws" "I"] ++ wsX90 ++ wsX20)
theorem iX9_mend_X9 : ∀ w ∈ wsX90, w ∈ uX9_mend := fun _ h => List.mem_cons_of_mem _ (List.mem_append_left _ (List.mem_append_right _ h))
theorem iX9_mend_X2 : ∀ w ∈ wsX20, w ∈ uX9_mend := fun _ h => List.mem_cons_of_mem _ (List.mem_append_right _ h)
set_option maxRecDepth 20000 in
theorem gX9_mend__X9_hasBoth_V137 : GoodIn uX9_mend (wsV RX9 137 RX9 yX9_hasBoth uX9_hasBoth) := goodIn_p _ [5, 11] rfl (by decide +kernel)
set_option maxHeartbeats 4000000 in
set_option maxRecDepth 100000 in
theorem kX9_mend (l : Launch) (dC : Nat → ClassId) (dI : Nat → Nat → Nat) (h0 : Nat) (tp : Nat) (sc : Nat) (rd : Nat) (cu : Nat) (im : Nat) (ig : Nat) (sl : Nat) (se : Nat) (su : Nat) (fc : Nat) (fa : Nat) (lu : Nat) (a1 : Int32) (a2 : Int32) : Met l yX9_mend uX9_mend ({ frames := 2, cells := 0, slots := 0, locals := 43 }) (va_Pc [.ref h0, .int a1, .int a2] (pw (dC, dI) vwCl [(h0, .inr (7, [.ref tp, .ref sc, .ref rd, .ref cu, .ref im, .ref ig, .ref sl, .ref se, .ref su, .ref fc])), (cu, .inr (1, [.int 0, .int 0, .int 0, .int 0, .int 0, .ref fa, .ref lu]))] [])) (vp_Si (fun r => r = (-2))) 0 0 (fun _ => False) := by
  refine Met.ofW (cc := cX9_mend) (maxL := 3) (ret := (some .int)) (by decide) rfl ?_
  intro p e s m args below meth c s₁ B hml hv
  obtain ⟨rfl, hP, hK, hN⟩ := hv
  have hx := B.exec
  have hb := B.bytes
  have hr := B.returns
  have hts := atoms_spec (ws := uX9_mend) B.pre
  have hown : s.vm.findClass RX9 = some m.cls := findClass_of_methodNamed B.named
  have hlocks := B.notSynchronized
  have hl := lv_entry ([.ref h0, .int a1, .int a2]) (n := 3) (Nat.le_of_ble_eq_true rfl)
  rw [lg_entry_eq]
  generalize (lg_sl ([.ref h0, .int a1, .int a2]) ++ List.replicate (3 - (lg_sl ([.ref h0, .int a1, .int a2])).length) Slot.unset).toArray = ls at hl ⊢
  have hl : lv_has ls 3 [(0, .ref h0), (1, .int a1), (2, .int a2)] := hl
  refine lv_aload_n hx hb dX9_mend_0 rfl (lv_at hl 0 rfl) ?_
  refine lv_iload_n hx hb dX9_mend_1 rfl (lv_at hl 1 rfl) ?_
  refine lv_iload_n hx hb dX9_mend_2 rfl (lv_at hl 2 rfl) ?_
  refine vp_callSi (W.runV (As := [.int a1, .int a2]) (rest := []) ⟨hx, hb, hml, hown, hts⟩ (kX9_hasBoth l dC dI h0 tp sc rd cu im ig sl se su fc fa lu a1 a2) (cwV 2 hts gX9_mend__X9_hasBoth_V137 rfl rfl rfl (by decide +kernel) ⟨lel 2 2 rfl, lel 43 43 rfl⟩) ⟨pw_fb, va_recv hK hP (ci := 7) (q0 := 0) rfl rfl, (pw_use hP hK hN [0, 1] rfl [] rfl)⟩ rfl rfl hl.1 rfl (lv_room (Nat.le_of_ble_eq_true rfl)) dX9_mend_3 ⟨lel 0 0 rfl, lel 0 0 rfl⟩) (fun r_1 hr_1 => ?_)
  obtain rfl : r_1 = 0 := hr_1
  refine lv_if_eq (tgt := 21) hx hb dX9_mend_6 (by decide) (fun _ => ?_) (fun c_2 => absurd c_2 (by decide))
  refine lv_bipush (v := (-2)) hx hb dX9_mend_21 (by decide) ?_
  exact W.iret (v := (-2)) hx hb hr (fun t ht hW => ⟨(-2), rfl, rfl, ht⟩) t_nil dX9_mend_23
theorem dX9_mended_0 : decode cX9_mended 0 = .ok (.aload_n 0, 1) := by decide +kernel
theorem dX9_mended_1 : decode cX9_mended 1 = .ok (.iload_n 1, 1) := by decide +kernel
theorem dX9_mended_2 : decode cX9_mended 2 = .ok (.iload_n 2, 1) := by decide +kernel
theorem dX9_mended_3 : decode cX9_mended 3 = .ok (.invokevirtual 137, 3) := by decide +kernel
theorem dX9_mended_6 : decode cX9_mended 6 = .ok (.ifCond .ne 6, 3) := by decide +kernel
theorem dX9_mended_9 : decode cX9_mended 9 = .ok (.bipush (-2), 2) := by decide +kernel
theorem dX9_mended_11 : decode cX9_mended 11 = .ok (.ireturn, 1) := by decide +kernel
def uX9_mended : List Cond := .code yX9_mended cX9_mended 7 (some .int) :: ([.methodLink RX9 137 yX9_hasBoth, .instanceMethod yX9_hasBoth, .selects RX9 yX9_hasBoth yX9_hasBoth, .initialized RX9, .code yX9_hasBoth cX9_hasBoth 3 (some .boolean), .fieldLink RX9 35 "LuckyTicket" "current" "LLuckyTicket$Roll;", .methodLink RX9 149 yX2_hasLaw, .instanceMethod yX2_hasLaw, .selects RX2 yX2_hasLaw yX2_hasLaw, .initialized RX2, .code yX2_hasLaw cX2_hasLaw 2 (some .boolean), .fieldLink RX2 33 "LuckyTicket$Roll" "laws" "I"] ++ wsX90 ++ wsX20)
theorem iX9_mended_X9 : ∀ w ∈ wsX90, w ∈ uX9_mended := fun _ h => List.mem_cons_of_mem _ (List.mem_append_left _ (List.mem_append_right _ h))
theorem iX9_mended_X2 : ∀ w ∈ wsX20, w ∈ uX9_mended := fun _ h => List.mem_cons_of_mem _ (List.mem_append_right _ h)
set_option maxRecDepth 20000 in
theorem gX9_mended__X9_hasBoth_V137 : GoodIn uX9_mended (wsV RX9 137 RX9 yX9_hasBoth uX9_hasBoth) := goodIn_p _ [5, 11] rfl (by decide +kernel)
set_option maxHeartbeats 4000000 in
set_option maxRecDepth 100000 in
theorem kX9_mended (l : Launch) (dC : Nat → ClassId) (dI : Nat → Nat → Nat) (h0 : Nat) (tp : Nat) (sc : Nat) (rd : Nat) (cu : Nat) (im : Nat) (ig : Nat) (sl : Nat) (se : Nat) (su : Nat) (fc : Nat) (fa : Nat) (lu : Nat) (a1 : Int32) (a2 : Int32) : Met l yX9_mended uX9_mended ({ frames := 2, cells := 0, slots := 0, locals := 43 }) (va_Pc [.ref h0, .int a1, .int a2] (pw (dC, dI) vwCl [(h0, .inr (7, [.ref tp, .ref sc, .ref rd, .ref cu, .ref im, .ref ig, .ref sl, .ref se, .ref su, .ref fc])), (cu, .inr (1, [.int 0, .int 0, .int 0, .int 0, .int 0, .ref fa, .ref lu]))] [])) (vp_Si (fun r => r = (-2))) 0 0 (fun _ => False) := by
  refine Met.ofW (cc := cX9_mended) (maxL := 7) (ret := (some .int)) (by decide) rfl ?_
  intro p e s m args below meth c s₁ B hml hv
  obtain ⟨rfl, hP, hK, hN⟩ := hv
  have hx := B.exec
  have hb := B.bytes
  have hr := B.returns
  have hts := atoms_spec (ws := uX9_mended) B.pre
  have hown : s.vm.findClass RX9 = some m.cls := findClass_of_methodNamed B.named
  have hlocks := B.notSynchronized
  have hl := lv_entry ([.ref h0, .int a1, .int a2]) (n := 7) (Nat.le_of_ble_eq_true rfl)
  rw [lg_entry_eq]
  generalize (lg_sl ([.ref h0, .int a1, .int a2]) ++ List.replicate (7 - (lg_sl ([.ref h0, .int a1, .int a2])).length) Slot.unset).toArray = ls at hl ⊢
  have hl : lv_has ls 7 [(0, .ref h0), (1, .int a1), (2, .int a2)] := hl
  refine lv_aload_n hx hb dX9_mended_0 rfl (lv_at hl 0 rfl) ?_
  refine lv_iload_n hx hb dX9_mended_1 rfl (lv_at hl 1 rfl) ?_
  refine lv_iload_n hx hb dX9_mended_2 rfl (lv_at hl 2 rfl) ?_
  refine vp_callSi (W.runV (As := [.int a1, .int a2]) (rest := []) ⟨hx, hb, hml, hown, hts⟩ (kX9_hasBoth l dC dI h0 tp sc rd cu im ig sl se su fc fa lu a1 a2) (cwV 2 hts gX9_mended__X9_hasBoth_V137 rfl rfl rfl (by decide +kernel) ⟨lel 2 2 rfl, lel 43 43 rfl⟩) ⟨pw_fb, va_recv hK hP (ci := 7) (q0 := 0) rfl rfl, (pw_use hP hK hN [0, 1] rfl [] rfl)⟩ rfl rfl hl.1 rfl (lv_room (Nat.le_of_ble_eq_true rfl)) dX9_mended_3 ⟨lel 0 0 rfl, lel 0 0 rfl⟩) (fun r_1 hr_1 => ?_)
  obtain rfl : r_1 = 0 := hr_1
  refine lv_if_ne (tgt := 12) hx hb dX9_mended_6 (by decide) (fun c_2 => absurd c_2 (by decide)) (fun _ => ?_)
  refine lv_bipush (v := (-2)) hx hb dX9_mended_9 (by decide) ?_
  exact W.iret (v := (-2)) hx hb hr (fun t ht hW => ⟨(-2), rfl, rfl, ht⟩) t_nil dX9_mended_11
theorem dX9_nearest_0 : decode cX9_nearest 0 = .ok (.aload_n 0, 1) := by decide +kernel
theorem dX9_nearest_1 : decode cX9_nearest 1 = .ok (.iload_n 1, 1) := by decide +kernel
theorem dX9_nearest_2 : decode cX9_nearest 2 = .ok (.iload_n 2, 1) := by decide +kernel
theorem dX9_nearest_3 : decode cX9_nearest 3 = .ok (.invokevirtual 137, 3) := by decide +kernel
theorem dX9_nearest_6 : decode cX9_nearest 6 = .ok (.ifCond .ne 6, 3) := by decide +kernel
theorem dX9_nearest_9 : decode cX9_nearest 9 = .ok (.bipush (-2), 2) := by decide +kernel
theorem dX9_nearest_11 : decode cX9_nearest 11 = .ok (.ireturn, 1) := by decide +kernel
def uX9_nearest : List Cond := .code yX9_nearest cX9_nearest 5 (some .int) :: ([.methodLink RX9 137 yX9_hasBoth, .instanceMethod yX9_hasBoth, .selects RX9 yX9_hasBoth yX9_hasBoth, .initialized RX9, .code yX9_hasBoth cX9_hasBoth 3 (some .boolean), .fieldLink RX9 35 "LuckyTicket" "current" "LLuckyTicket$Roll;", .methodLink RX9 149 yX2_hasLaw, .instanceMethod yX2_hasLaw, .selects RX2 yX2_hasLaw yX2_hasLaw, .initialized RX2, .code yX2_hasLaw cX2_hasLaw 2 (some .boolean), .fieldLink RX2 33 "LuckyTicket$Roll" "laws" "I"] ++ wsX90 ++ wsX20)
theorem iX9_nearest_X9 : ∀ w ∈ wsX90, w ∈ uX9_nearest := fun _ h => List.mem_cons_of_mem _ (List.mem_append_left _ (List.mem_append_right _ h))
theorem iX9_nearest_X2 : ∀ w ∈ wsX20, w ∈ uX9_nearest := fun _ h => List.mem_cons_of_mem _ (List.mem_append_right _ h)
set_option maxRecDepth 20000 in
theorem gX9_nearest__X9_hasBoth_V137 : GoodIn uX9_nearest (wsV RX9 137 RX9 yX9_hasBoth uX9_hasBoth) := goodIn_p _ [5, 11] rfl (by decide +kernel)
set_option maxHeartbeats 4000000 in
set_option maxRecDepth 100000 in
theorem kX9_nearest (l : Launch) (dC : Nat → ClassId) (dI : Nat → Nat → Nat) (h0 : Nat) (tp : Nat) (sc : Nat) (rd : Nat) (cu : Nat) (im : Nat) (ig : Nat) (sl : Nat) (se : Nat) (su : Nat) (fc : Nat) (fa : Nat) (lu : Nat) (a1 : Int32) (a2 : Int32) : Met l yX9_nearest uX9_nearest ({ frames := 2, cells := 0, slots := 0, locals := 43 }) (va_Pc [.ref h0, .int a1, .int a2] (pw (dC, dI) vwCl [(h0, .inr (7, [.ref tp, .ref sc, .ref rd, .ref cu, .ref im, .ref ig, .ref sl, .ref se, .ref su, .ref fc])), (cu, .inr (1, [.int 0, .int 0, .int 0, .int 0, .int 0, .ref fa, .ref lu]))] [])) (vp_Si (fun r => r = (-2))) 0 0 (fun _ => False) := by
  refine Met.ofW (cc := cX9_nearest) (maxL := 5) (ret := (some .int)) (by decide) rfl ?_
  intro p e s m args below meth c s₁ B hml hv
  obtain ⟨rfl, hP, hK, hN⟩ := hv
  have hx := B.exec
  have hb := B.bytes
  have hr := B.returns
  have hts := atoms_spec (ws := uX9_nearest) B.pre
  have hown : s.vm.findClass RX9 = some m.cls := findClass_of_methodNamed B.named
  have hlocks := B.notSynchronized
  have hl := lv_entry ([.ref h0, .int a1, .int a2]) (n := 5) (Nat.le_of_ble_eq_true rfl)
  rw [lg_entry_eq]
  generalize (lg_sl ([.ref h0, .int a1, .int a2]) ++ List.replicate (5 - (lg_sl ([.ref h0, .int a1, .int a2])).length) Slot.unset).toArray = ls at hl ⊢
  have hl : lv_has ls 5 [(0, .ref h0), (1, .int a1), (2, .int a2)] := hl
  refine lv_aload_n hx hb dX9_nearest_0 rfl (lv_at hl 0 rfl) ?_
  refine lv_iload_n hx hb dX9_nearest_1 rfl (lv_at hl 1 rfl) ?_
  refine lv_iload_n hx hb dX9_nearest_2 rfl (lv_at hl 2 rfl) ?_
  refine vp_callSi (W.runV (As := [.int a1, .int a2]) (rest := []) ⟨hx, hb, hml, hown, hts⟩ (kX9_hasBoth l dC dI h0 tp sc rd cu im ig sl se su fc fa lu a1 a2) (cwV 2 hts gX9_nearest__X9_hasBoth_V137 rfl rfl rfl (by decide +kernel) ⟨lel 2 2 rfl, lel 43 43 rfl⟩) ⟨pw_fb, va_recv hK hP (ci := 7) (q0 := 0) rfl rfl, (pw_use hP hK hN [0, 1] rfl [] rfl)⟩ rfl rfl hl.1 rfl (lv_room (Nat.le_of_ble_eq_true rfl)) dX9_nearest_3 ⟨lel 0 0 rfl, lel 0 0 rfl⟩) (fun r_1 hr_1 => ?_)
  obtain rfl : r_1 = 0 := hr_1
  refine lv_if_ne (tgt := 12) hx hb dX9_nearest_6 (by decide) (fun c_2 => absurd c_2 (by decide)) (fun _ => ?_)
  refine lv_bipush (v := (-2)) hx hb dX9_nearest_9 (by decide) ?_
  exact W.iret (v := (-2)) hx hb hr (fun t ht hW => ⟨(-2), rfl, rfl, ht⟩) t_nil dX9_nearest_11
theorem dX9_about_0 : decode cX9_about 0 = .ok (.aload_n 0, 1) := by decide +kernel
theorem dX9_about_1 : decode cX9_about 1 = .ok (.getfield 35, 3) := by decide +kernel
theorem dX9_about_4 : decode cX9_about 4 = .ok (.iload_n 1, 1) := by decide +kernel
theorem dX9_about_5 : decode cX9_about 5 = .ok (.invokevirtual 100, 3) := by decide +kernel
theorem dX9_about_8 : decode cX9_about 8 = .ok (.ifCond .ne 6, 3) := by decide +kernel
theorem dX9_about_11 : decode cX9_about 11 = .ok (.bipush (-2), 2) := by decide +kernel
theorem dX9_about_13 : decode cX9_about 13 = .ok (.ireturn, 1) := by decide +kernel
def uX9_about : List Cond := .code yX9_about cX9_about 4 (some .int) :: ([.fieldLink RX9 35 "LuckyTicket" "current" "LLuckyTicket$Roll;", .methodLink RX9 100 yX2_hasTicket, .instanceMethod yX2_hasTicket, .selects RX2 yX2_hasTicket yX2_hasTicket, .initialized RX2, .code yX2_hasTicket cX2_hasTicket 2 (some .boolean), .fieldLink RX2 42 "LuckyTicket$Roll" "tickets" "I"] ++ wsX90 ++ wsX20)
theorem iX9_about_X9 : ∀ w ∈ wsX90, w ∈ uX9_about := fun _ h => List.mem_cons_of_mem _ (List.mem_append_left _ (List.mem_append_right _ h))
theorem iX9_about_X2 : ∀ w ∈ wsX20, w ∈ uX9_about := fun _ h => List.mem_cons_of_mem _ (List.mem_append_right _ h)
set_option maxRecDepth 20000 in
theorem gX9_about__X2_hasTicket_V100 : GoodIn uX9_about (wsV RX9 100 RX2 yX2_hasTicket uX2_hasTicket) := goodIn_p _ [6] rfl (by decide +kernel)
set_option maxHeartbeats 4000000 in
set_option maxRecDepth 100000 in
theorem kX9_about (l : Launch) (dC : Nat → ClassId) (dI : Nat → Nat → Nat) (h0 : Nat) (tp : Nat) (sc : Nat) (rd : Nat) (cu : Nat) (im : Nat) (ig : Nat) (sl : Nat) (se : Nat) (su : Nat) (fc : Nat) (fa : Nat) (lu : Nat) (a1 : Int32) : Met l yX9_about uX9_about ({ frames := 1, cells := 0, slots := 0, locals := 21 }) (va_Pc [.ref h0, .int a1] (pw (dC, dI) vwCl [(h0, .inr (7, [.ref tp, .ref sc, .ref rd, .ref cu, .ref im, .ref ig, .ref sl, .ref se, .ref su, .ref fc])), (cu, .inr (1, [.int 0, .int 0, .int 0, .int 0, .int 0, .ref fa, .ref lu]))] [])) (vp_Si (fun r => r = (-2))) 0 0 (fun _ => False) := by
  refine Met.ofW (cc := cX9_about) (maxL := 4) (ret := (some .int)) (by decide) rfl ?_
  intro p e s m args below meth c s₁ B hml hv
  obtain ⟨rfl, hP, hK, hN⟩ := hv
  have hx := B.exec
  have hb := B.bytes
  have hr := B.returns
  have hts := atoms_spec (ws := uX9_about) B.pre
  have hown : s.vm.findClass RX9 = some m.cls := findClass_of_methodNamed B.named
  have hlocks := B.notSynchronized
  have hl := lv_entry ([.ref h0, .int a1]) (n := 4) (Nat.le_of_ble_eq_true rfl)
  rw [lg_entry_eq]
  generalize (lg_sl ([.ref h0, .int a1]) ++ List.replicate (4 - (lg_sl ([.ref h0, .int a1])).length) Slot.unset).toArray = ls at hl ⊢
  have hl : lv_has ls 4 [(0, .ref h0), (1, .int a1)] := hl
  refine lv_aload_n hx hb dX9_about_0 rfl (lv_at hl 0 rfl) ?_
  refine va_get (D := (dC, dI)) (ci := 7) (v := .ref cu) (C := RX9) (T := TX9) (N := 10) hx hb hts iX9_about_X9 hown hK hP 0 rfl rfl 3 (by decide) (hts (.fieldLink RX9 35 "LuckyTicket" "current" "LLuckyTicket$Roll;") (List.mem_of_getElem? (i := 1) rfl)) (fun _ h9 => h9) rfl dX9_about_1 ?_
  refine lv_iload_n hx hb dX9_about_4 rfl (lv_at hl 1 rfl) ?_
  refine vp_callSi (W.runV (As := [.int a1]) (rest := []) ⟨hx, hb, hml, hown, hts⟩ (kX2_hasTicket l dC dI cu fa lu a1) (cwV 1 hts gX9_about__X2_hasTicket_V100 rfl rfl rfl (by decide +kernel) ⟨lel 1 1 rfl, lel 21 21 rfl⟩) ⟨pw_fb, va_recv hK hP (ci := 1) (q0 := 1) rfl rfl, (pw_use hP hK hN [1] rfl [] rfl)⟩ rfl rfl hl.1 rfl (lv_room (Nat.le_of_ble_eq_true rfl)) dX9_about_5 ⟨lel 0 0 rfl, lel 0 0 rfl⟩) (fun r_1 hr_1 => ?_)
  obtain rfl : r_1 = 0 := hr_1
  refine lv_if_ne (tgt := 14) hx hb dX9_about_8 (by decide) (fun c_2 => absurd c_2 (by decide)) (fun _ => ?_)
  refine lv_bipush (v := (-2)) hx hb dX9_about_11 (by decide) ?_
  exact W.iret (v := (-2)) hx hb hr (fun t ht hW => ⟨(-2), rfl, rfl, ht⟩) t_nil dX9_about_13
theorem dX9_draw_0 : decode cX9_draw 0 = .ok (.aload_n 0, 1) := by decide +kernel
theorem dX9_draw_1 : decode cX9_draw 1 = .ok (.getfield 35, 3) := by decide +kernel
theorem dX9_draw_4 : decode cX9_draw 4 = .ok (.iload_n 1, 1) := by decide +kernel
theorem dX9_draw_5 : decode cX9_draw 5 = .ok (.invokevirtual 149, 3) := by decide +kernel
theorem dX9_draw_8 : decode cX9_draw 8 = .ok (.ifCond .eq 14, 3) := by decide +kernel
theorem dX9_draw_22 : decode cX9_draw 22 = .ok (.bipush (-2), 2) := by decide +kernel
theorem dX9_draw_24 : decode cX9_draw 24 = .ok (.ireturn, 1) := by decide +kernel
def uX9_draw : List Cond := .code yX9_draw cX9_draw 4 (some .int) :: ([.fieldLink RX9 35 "LuckyTicket" "current" "LLuckyTicket$Roll;", .methodLink RX9 149 yX2_hasLaw, .instanceMethod yX2_hasLaw, .selects RX2 yX2_hasLaw yX2_hasLaw, .initialized RX2, .code yX2_hasLaw cX2_hasLaw 2 (some .boolean), .fieldLink RX2 33 "LuckyTicket$Roll" "laws" "I"] ++ wsX90 ++ wsX20)
theorem iX9_draw_X9 : ∀ w ∈ wsX90, w ∈ uX9_draw := fun _ h => List.mem_cons_of_mem _ (List.mem_append_left _ (List.mem_append_right _ h))
theorem iX9_draw_X2 : ∀ w ∈ wsX20, w ∈ uX9_draw := fun _ h => List.mem_cons_of_mem _ (List.mem_append_right _ h)
set_option maxRecDepth 20000 in
theorem gX9_draw__X2_hasLaw_V149 : GoodIn uX9_draw (wsV RX9 149 RX2 yX2_hasLaw uX2_hasLaw) := goodIn_p _ [6] rfl (by decide +kernel)
set_option maxHeartbeats 4000000 in
set_option maxRecDepth 100000 in
theorem kX9_draw (l : Launch) (dC : Nat → ClassId) (dI : Nat → Nat → Nat) (h0 : Nat) (tp : Nat) (sc : Nat) (rd : Nat) (cu : Nat) (im : Nat) (ig : Nat) (sl : Nat) (se : Nat) (su : Nat) (fc : Nat) (fa : Nat) (lu : Nat) (a1 : Int32) (a2 : Int32) : Met l yX9_draw uX9_draw ({ frames := 1, cells := 0, slots := 0, locals := 21 }) (va_Pc [.ref h0, .int a1, .int a2] (pw (dC, dI) vwCl [(h0, .inr (7, [.ref tp, .ref sc, .ref rd, .ref cu, .ref im, .ref ig, .ref sl, .ref se, .ref su, .ref fc])), (cu, .inr (1, [.int 0, .int 0, .int 0, .int 0, .int 0, .ref fa, .ref lu]))] [])) (vp_Si (fun r => r = (-2))) 0 0 (fun _ => False) := by
  refine Met.ofW (cc := cX9_draw) (maxL := 4) (ret := (some .int)) (by decide) rfl ?_
  intro p e s m args below meth c s₁ B hml hv
  obtain ⟨rfl, hP, hK, hN⟩ := hv
  have hx := B.exec
  have hb := B.bytes
  have hr := B.returns
  have hts := atoms_spec (ws := uX9_draw) B.pre
  have hown : s.vm.findClass RX9 = some m.cls := findClass_of_methodNamed B.named
  have hlocks := B.notSynchronized
  have hl := lv_entry ([.ref h0, .int a1, .int a2]) (n := 4) (Nat.le_of_ble_eq_true rfl)
  rw [lg_entry_eq]
  generalize (lg_sl ([.ref h0, .int a1, .int a2]) ++ List.replicate (4 - (lg_sl ([.ref h0, .int a1, .int a2])).length) Slot.unset).toArray = ls at hl ⊢
  have hl : lv_has ls 4 [(0, .ref h0), (1, .int a1), (2, .int a2)] := hl
  refine lv_aload_n hx hb dX9_draw_0 rfl (lv_at hl 0 rfl) ?_
  refine va_get (D := (dC, dI)) (ci := 7) (v := .ref cu) (C := RX9) (T := TX9) (N := 10) hx hb hts iX9_draw_X9 hown hK hP 0 rfl rfl 3 (by decide) (hts (.fieldLink RX9 35 "LuckyTicket" "current" "LLuckyTicket$Roll;") (List.mem_of_getElem? (i := 1) rfl)) (fun _ h9 => h9) rfl dX9_draw_1 ?_
  refine lv_iload_n hx hb dX9_draw_4 rfl (lv_at hl 1 rfl) ?_
  refine vp_callSi (W.runV (As := [.int a1]) (rest := []) ⟨hx, hb, hml, hown, hts⟩ (kX2_hasLaw l dC dI cu fa lu a1) (cwV 1 hts gX9_draw__X2_hasLaw_V149 rfl rfl rfl (by decide +kernel) ⟨lel 1 1 rfl, lel 21 21 rfl⟩) ⟨pw_fb, va_recv hK hP (ci := 1) (q0 := 1) rfl rfl, (pw_use hP hK hN [1] rfl [] rfl)⟩ rfl rfl hl.1 rfl (lv_room (Nat.le_of_ble_eq_true rfl)) dX9_draw_5 ⟨lel 0 0 rfl, lel 0 0 rfl⟩) (fun r_1 hr_1 => ?_)
  obtain rfl : r_1 = 0 := hr_1
  refine lv_if_eq (tgt := 22) hx hb dX9_draw_8 (by decide) (fun _ => ?_) (fun c_2 => absurd c_2 (by decide))
  refine lv_bipush (v := (-2)) hx hb dX9_draw_22 (by decide) ?_
  exact W.iret (v := (-2)) hx hb hr (fun t ht hW => ⟨(-2), rfl, rfl, ht⟩) t_nil dX9_draw_24
theorem dX9_sold_0 : decode cX9_sold 0 = .ok (.aload_n 0, 1) := by decide +kernel
theorem dX9_sold_1 : decode cX9_sold 1 = .ok (.getfield 35, 3) := by decide +kernel
theorem dX9_sold_4 : decode cX9_sold 4 = .ok (.iload_n 1, 1) := by decide +kernel
theorem dX9_sold_5 : decode cX9_sold 5 = .ok (.invokevirtual 149, 3) := by decide +kernel
theorem dX9_sold_8 : decode cX9_sold 8 = .ok (.ifCond .eq 24, 3) := by decide +kernel
theorem dX9_sold_32 : decode cX9_sold 32 = .ok (.bipush (-2), 2) := by decide +kernel
theorem dX9_sold_34 : decode cX9_sold 34 = .ok (.ireturn, 1) := by decide +kernel
def uX9_sold : List Cond := .code yX9_sold cX9_sold 8 (some .int) :: ([.fieldLink RX9 35 "LuckyTicket" "current" "LLuckyTicket$Roll;", .methodLink RX9 149 yX2_hasLaw, .instanceMethod yX2_hasLaw, .selects RX2 yX2_hasLaw yX2_hasLaw, .initialized RX2, .code yX2_hasLaw cX2_hasLaw 2 (some .boolean), .fieldLink RX2 33 "LuckyTicket$Roll" "laws" "I"] ++ wsX90 ++ wsX20)
theorem iX9_sold_X9 : ∀ w ∈ wsX90, w ∈ uX9_sold := fun _ h => List.mem_cons_of_mem _ (List.mem_append_left _ (List.mem_append_right _ h))
theorem iX9_sold_X2 : ∀ w ∈ wsX20, w ∈ uX9_sold := fun _ h => List.mem_cons_of_mem _ (List.mem_append_right _ h)
set_option maxRecDepth 20000 in
theorem gX9_sold__X2_hasLaw_V149 : GoodIn uX9_sold (wsV RX9 149 RX2 yX2_hasLaw uX2_hasLaw) := goodIn_p _ [6] rfl (by decide +kernel)
set_option maxHeartbeats 4000000 in
set_option maxRecDepth 100000 in
theorem kX9_sold (l : Launch) (dC : Nat → ClassId) (dI : Nat → Nat → Nat) (h0 : Nat) (tp : Nat) (sc : Nat) (rd : Nat) (cu : Nat) (im : Nat) (ig : Nat) (sl : Nat) (se : Nat) (su : Nat) (fc : Nat) (fa : Nat) (lu : Nat) (a1 : Int32) (a2 : Int32) (a3 : Int32) : Met l yX9_sold uX9_sold ({ frames := 1, cells := 0, slots := 0, locals := 21 }) (va_Pc [.ref h0, .int a1, .int a2, .int a3] (pw (dC, dI) vwCl [(h0, .inr (7, [.ref tp, .ref sc, .ref rd, .ref cu, .ref im, .ref ig, .ref sl, .ref se, .ref su, .ref fc])), (cu, .inr (1, [.int 0, .int 0, .int 0, .int 0, .int 0, .ref fa, .ref lu]))] [])) (vp_Si (fun r => r = (-2))) 0 0 (fun _ => False) := by
  refine Met.ofW (cc := cX9_sold) (maxL := 8) (ret := (some .int)) (by decide) rfl ?_
  intro p e s m args below meth c s₁ B hml hv
  obtain ⟨rfl, hP, hK, hN⟩ := hv
  have hx := B.exec
  have hb := B.bytes
  have hr := B.returns
  have hts := atoms_spec (ws := uX9_sold) B.pre
  have hown : s.vm.findClass RX9 = some m.cls := findClass_of_methodNamed B.named
  have hlocks := B.notSynchronized
  have hl := lv_entry ([.ref h0, .int a1, .int a2, .int a3]) (n := 8) (Nat.le_of_ble_eq_true rfl)
  rw [lg_entry_eq]
  generalize (lg_sl ([.ref h0, .int a1, .int a2, .int a3]) ++ List.replicate (8 - (lg_sl ([.ref h0, .int a1, .int a2, .int a3])).length) Slot.unset).toArray = ls at hl ⊢
  have hl : lv_has ls 8 [(0, .ref h0), (1, .int a1), (2, .int a2), (3, .int a3)] := hl
  refine lv_aload_n hx hb dX9_sold_0 rfl (lv_at hl 0 rfl) ?_
  refine va_get (D := (dC, dI)) (ci := 7) (v := .ref cu) (C := RX9) (T := TX9) (N := 10) hx hb hts iX9_sold_X9 hown hK hP 0 rfl rfl 3 (by decide) (hts (.fieldLink RX9 35 "LuckyTicket" "current" "LLuckyTicket$Roll;") (List.mem_of_getElem? (i := 1) rfl)) (fun _ h9 => h9) rfl dX9_sold_1 ?_
  refine lv_iload_n hx hb dX9_sold_4 rfl (lv_at hl 1 rfl) ?_
  refine vp_callSi (W.runV (As := [.int a1]) (rest := []) ⟨hx, hb, hml, hown, hts⟩ (kX2_hasLaw l dC dI cu fa lu a1) (cwV 1 hts gX9_sold__X2_hasLaw_V149 rfl rfl rfl (by decide +kernel) ⟨lel 1 1 rfl, lel 21 21 rfl⟩) ⟨pw_fb, va_recv hK hP (ci := 1) (q0 := 1) rfl rfl, (pw_use hP hK hN [1] rfl [] rfl)⟩ rfl rfl hl.1 rfl (lv_room (Nat.le_of_ble_eq_true rfl)) dX9_sold_5 ⟨lel 0 0 rfl, lel 0 0 rfl⟩) (fun r_1 hr_1 => ?_)
  obtain rfl : r_1 = 0 := hr_1
  refine lv_if_eq (tgt := 32) hx hb dX9_sold_8 (by decide) (fun _ => ?_) (fun c_2 => absurd c_2 (by decide))
  refine lv_bipush (v := (-2)) hx hb dX9_sold_32 (by decide) ?_
  exact W.iret (v := (-2)) hx hb hr (fun t ht hW => ⟨(-2), rfl, rfl, ht⟩) t_nil dX9_sold_34
theorem dX9_first_0 : decode cX9_first 0 = .ok (.aload_n 0, 1) := by decide +kernel
theorem dX9_first_1 : decode cX9_first 1 = .ok (.getfield 35, 3) := by decide +kernel
theorem dX9_first_4 : decode cX9_first 4 = .ok (.iload_n 1, 1) := by decide +kernel
theorem dX9_first_5 : decode cX9_first 5 = .ok (.invokevirtual 149, 3) := by decide +kernel
theorem dX9_first_8 : decode cX9_first 8 = .ok (.ifCond .eq 24, 3) := by decide +kernel
theorem dX9_first_32 : decode cX9_first 32 = .ok (.bipush (-2), 2) := by decide +kernel
theorem dX9_first_34 : decode cX9_first 34 = .ok (.ireturn, 1) := by decide +kernel
def uX9_first : List Cond := .code yX9_first cX9_first 7 (some .int) :: ([.fieldLink RX9 35 "LuckyTicket" "current" "LLuckyTicket$Roll;", .methodLink RX9 149 yX2_hasLaw, .instanceMethod yX2_hasLaw, .selects RX2 yX2_hasLaw yX2_hasLaw, .initialized RX2, .code yX2_hasLaw cX2_hasLaw 2 (some .boolean), .fieldLink RX2 33 "LuckyTicket$Roll" "laws" "I"] ++ wsX90 ++ wsX20)
theorem iX9_first_X9 : ∀ w ∈ wsX90, w ∈ uX9_first := fun _ h => List.mem_cons_of_mem _ (List.mem_append_left _ (List.mem_append_right _ h))
theorem iX9_first_X2 : ∀ w ∈ wsX20, w ∈ uX9_first := fun _ h => List.mem_cons_of_mem _ (List.mem_append_right _ h)
set_option maxRecDepth 20000 in
theorem gX9_first__X2_hasLaw_V149 : GoodIn uX9_first (wsV RX9 149 RX2 yX2_hasLaw uX2_hasLaw) := goodIn_p _ [6] rfl (by decide +kernel)
set_option maxHeartbeats 4000000 in
set_option maxRecDepth 100000 in
theorem kX9_first (l : Launch) (dC : Nat → ClassId) (dI : Nat → Nat → Nat) (h0 : Nat) (tp : Nat) (sc : Nat) (rd : Nat) (cu : Nat) (im : Nat) (ig : Nat) (sl : Nat) (se : Nat) (su : Nat) (fc : Nat) (fa : Nat) (lu : Nat) (a1 : Int32) (a2 : Int32) (a3 : Int32) : Met l yX9_first uX9_first ({ frames := 1, cells := 0, slots := 0, locals := 21 }) (va_Pc [.ref h0, .int a1, .int a2, .int a3] (pw (dC, dI) vwCl [(h0, .inr (7, [.ref tp, .ref sc, .ref rd, .ref cu, .ref im, .ref ig, .ref sl, .ref se, .ref su, .ref fc])), (cu, .inr (1, [.int 0, .int 0, .int 0, .int 0, .int 0, .ref fa, .ref lu]))] [])) (vp_Si (fun r => r = (-2))) 0 0 (fun _ => False) := by
  refine Met.ofW (cc := cX9_first) (maxL := 7) (ret := (some .int)) (by decide) rfl ?_
  intro p e s m args below meth c s₁ B hml hv
  obtain ⟨rfl, hP, hK, hN⟩ := hv
  have hx := B.exec
  have hb := B.bytes
  have hr := B.returns
  have hts := atoms_spec (ws := uX9_first) B.pre
  have hown : s.vm.findClass RX9 = some m.cls := findClass_of_methodNamed B.named
  have hlocks := B.notSynchronized
  have hl := lv_entry ([.ref h0, .int a1, .int a2, .int a3]) (n := 7) (Nat.le_of_ble_eq_true rfl)
  rw [lg_entry_eq]
  generalize (lg_sl ([.ref h0, .int a1, .int a2, .int a3]) ++ List.replicate (7 - (lg_sl ([.ref h0, .int a1, .int a2, .int a3])).length) Slot.unset).toArray = ls at hl ⊢
  have hl : lv_has ls 7 [(0, .ref h0), (1, .int a1), (2, .int a2), (3, .int a3)] := hl
  refine lv_aload_n hx hb dX9_first_0 rfl (lv_at hl 0 rfl) ?_
  refine va_get (D := (dC, dI)) (ci := 7) (v := .ref cu) (C := RX9) (T := TX9) (N := 10) hx hb hts iX9_first_X9 hown hK hP 0 rfl rfl 3 (by decide) (hts (.fieldLink RX9 35 "LuckyTicket" "current" "LLuckyTicket$Roll;") (List.mem_of_getElem? (i := 1) rfl)) (fun _ h9 => h9) rfl dX9_first_1 ?_
  refine lv_iload_n hx hb dX9_first_4 rfl (lv_at hl 1 rfl) ?_
  refine vp_callSi (W.runV (As := [.int a1]) (rest := []) ⟨hx, hb, hml, hown, hts⟩ (kX2_hasLaw l dC dI cu fa lu a1) (cwV 1 hts gX9_first__X2_hasLaw_V149 rfl rfl rfl (by decide +kernel) ⟨lel 1 1 rfl, lel 21 21 rfl⟩) ⟨pw_fb, va_recv hK hP (ci := 1) (q0 := 1) rfl rfl, (pw_use hP hK hN [1] rfl [] rfl)⟩ rfl rfl hl.1 rfl (lv_room (Nat.le_of_ble_eq_true rfl)) dX9_first_5 ⟨lel 0 0 rfl, lel 0 0 rfl⟩) (fun r_1 hr_1 => ?_)
  obtain rfl : r_1 = 0 := hr_1
  refine lv_if_eq (tgt := 32) hx hb dX9_first_8 (by decide) (fun _ => ?_) (fun c_2 => absurd c_2 (by decide))
  refine lv_bipush (v := (-2)) hx hb dX9_first_32 (by decide) ?_
  exact W.iret (v := (-2)) hx hb hr (fun t ht hW => ⟨(-2), rfl, rfl, ht⟩) t_nil dX9_first_34
theorem dX9_seldom_0 : decode cX9_seldom 0 = .ok (.aload_n 0, 1) := by decide +kernel
theorem dX9_seldom_1 : decode cX9_seldom 1 = .ok (.getfield 35, 3) := by decide +kernel
theorem dX9_seldom_4 : decode cX9_seldom 4 = .ok (.iload_n 1, 1) := by decide +kernel
theorem dX9_seldom_5 : decode cX9_seldom 5 = .ok (.invokevirtual 149, 3) := by decide +kernel
theorem dX9_seldom_8 : decode cX9_seldom 8 = .ok (.ifCond .eq 21, 3) := by decide +kernel
theorem dX9_seldom_29 : decode cX9_seldom 29 = .ok (.ldc2_w 265, 3) := by decide +kernel
theorem dX9_seldom_32 : decode cX9_seldom 32 = .ok (.lreturn, 1) := by decide +kernel
def uX9_seldom : List Cond := .code yX9_seldom cX9_seldom 8 (some .long) :: ([.fieldLink RX9 35 "LuckyTicket" "current" "LLuckyTicket$Roll;", .methodLink RX9 149 yX2_hasLaw, .instanceMethod yX2_hasLaw, .selects RX2 yX2_hasLaw yX2_hasLaw, .initialized RX2, .code yX2_hasLaw cX2_hasLaw 2 (some .boolean), .fieldLink RX2 33 "LuckyTicket$Roll" "laws" "I", .constantLong RX9 265 (-2)] ++ wsX90 ++ wsX20)
theorem iX9_seldom_X9 : ∀ w ∈ wsX90, w ∈ uX9_seldom := fun _ h => List.mem_cons_of_mem _ (List.mem_append_left _ (List.mem_append_right _ h))
theorem iX9_seldom_X2 : ∀ w ∈ wsX20, w ∈ uX9_seldom := fun _ h => List.mem_cons_of_mem _ (List.mem_append_right _ h)
set_option maxRecDepth 20000 in
theorem gX9_seldom__X2_hasLaw_V149 : GoodIn uX9_seldom (wsV RX9 149 RX2 yX2_hasLaw uX2_hasLaw) := goodIn_p _ [6] rfl (by decide +kernel)
set_option maxHeartbeats 4000000 in
set_option maxRecDepth 100000 in
theorem kX9_seldom (l : Launch) (dC : Nat → ClassId) (dI : Nat → Nat → Nat) (h0 : Nat) (tp : Nat) (sc : Nat) (rd : Nat) (cu : Nat) (im : Nat) (ig : Nat) (sl : Nat) (se : Nat) (su : Nat) (fc : Nat) (fa : Nat) (lu : Nat) (a1 : Int32) (a2 : Int32) (a3 : Int32) : Met l yX9_seldom uX9_seldom ({ frames := 1, cells := 0, slots := 0, locals := 21 }) (va_Pc [.ref h0, .int a1, .int a2, .int a3] (pw (dC, dI) vwCl [(h0, .inr (7, [.ref tp, .ref sc, .ref rd, .ref cu, .ref im, .ref ig, .ref sl, .ref se, .ref su, .ref fc])), (cu, .inr (1, [.int 0, .int 0, .int 0, .int 0, .int 0, .ref fa, .ref lu]))] [])) (vp_Sl (fun r => r = (-2))) 0 0 (fun _ => False) := by
  refine Met.ofW (cc := cX9_seldom) (maxL := 8) (ret := (some .long)) (by decide) rfl ?_
  intro p e s m args below meth c s₁ B hml hv
  obtain ⟨rfl, hP, hK, hN⟩ := hv
  have hx := B.exec
  have hb := B.bytes
  have hr := B.returns
  have hts := atoms_spec (ws := uX9_seldom) B.pre
  have hown : s.vm.findClass RX9 = some m.cls := findClass_of_methodNamed B.named
  have hlocks := B.notSynchronized
  have hl := lv_entry ([.ref h0, .int a1, .int a2, .int a3]) (n := 8) (Nat.le_of_ble_eq_true rfl)
  rw [lg_entry_eq]
  generalize (lg_sl ([.ref h0, .int a1, .int a2, .int a3]) ++ List.replicate (8 - (lg_sl ([.ref h0, .int a1, .int a2, .int a3])).length) Slot.unset).toArray = ls at hl ⊢
  have hl : lv_has ls 8 [(0, .ref h0), (1, .int a1), (2, .int a2), (3, .int a3)] := hl
  refine lv_aload_n hx hb dX9_seldom_0 rfl (lv_at hl 0 rfl) ?_
  refine va_get (D := (dC, dI)) (ci := 7) (v := .ref cu) (C := RX9) (T := TX9) (N := 10) hx hb hts iX9_seldom_X9 hown hK hP 0 rfl rfl 3 (by decide) (hts (.fieldLink RX9 35 "LuckyTicket" "current" "LLuckyTicket$Roll;") (List.mem_of_getElem? (i := 1) rfl)) (fun _ h9 => h9) rfl dX9_seldom_1 ?_
  refine lv_iload_n hx hb dX9_seldom_4 rfl (lv_at hl 1 rfl) ?_
  refine vp_callSi (W.runV (As := [.int a1]) (rest := []) ⟨hx, hb, hml, hown, hts⟩ (kX2_hasLaw l dC dI cu fa lu a1) (cwV 1 hts gX9_seldom__X2_hasLaw_V149 rfl rfl rfl (by decide +kernel) ⟨lel 1 1 rfl, lel 21 21 rfl⟩) ⟨pw_fb, va_recv hK hP (ci := 1) (q0 := 1) rfl rfl, (pw_use hP hK hN [1] rfl [] rfl)⟩ rfl rfl hl.1 rfl (lv_room (Nat.le_of_ble_eq_true rfl)) dX9_seldom_5 ⟨lel 0 0 rfl, lel 0 0 rfl⟩) (fun r_1 hr_1 => ?_)
  obtain rfl : r_1 = 0 := hr_1
  refine lv_if_eq (tgt := 29) hx hb dX9_seldom_8 (by decide) (fun _ => ?_) (fun c_2 => absurd c_2 (by decide))
  refine lv_ldc2 (v := (-2)) hx hb hown (hts (.constantLong RX9 265 (-2)) (List.mem_of_getElem? (i := 8) rfl)) dX9_seldom_29 ?_
  exact W.lret (v := (-2)) hx hb hr (fun t ht hW => ⟨(-2), rfl, rfl, ht⟩) t_nil dX9_seldom_32
theorem dX9_sets_0 : decode cX9_sets 0 = .ok (.aload_n 0, 1) := by decide +kernel
theorem dX9_sets_1 : decode cX9_sets 1 = .ok (.getfield 35, 3) := by decide +kernel
theorem dX9_sets_4 : decode cX9_sets 4 = .ok (.invokevirtual 194, 3) := by decide +kernel
theorem dX9_sets_7 : decode cX9_sets 7 = .ok (.ifCond .eq 12, 3) := by decide +kernel
theorem dX9_sets_19 : decode cX9_sets 19 = .ok (.ldc2_w 265, 3) := by decide +kernel
theorem dX9_sets_22 : decode cX9_sets 22 = .ok (.lreturn, 1) := by decide +kernel
def uX9_sets : List Cond := .code yX9_sets cX9_sets 2 (some .long) :: ([.fieldLink RX9 35 "LuckyTicket" "current" "LLuckyTicket$Roll;", .methodLink RX9 194 yX2_stands, .instanceMethod yX2_stands, .selects RX2 yX2_stands yX2_stands, .initialized RX2, .code yX2_stands cX2_stands 1 (some .boolean), .fieldLink RX2 42 "LuckyTicket$Roll" "tickets" "I", .constantLong RX9 265 (-2)] ++ wsX90 ++ wsX20)
theorem iX9_sets_X9 : ∀ w ∈ wsX90, w ∈ uX9_sets := fun _ h => List.mem_cons_of_mem _ (List.mem_append_left _ (List.mem_append_right _ h))
theorem iX9_sets_X2 : ∀ w ∈ wsX20, w ∈ uX9_sets := fun _ h => List.mem_cons_of_mem _ (List.mem_append_right _ h)
set_option maxRecDepth 20000 in
theorem gX9_sets__X2_stands_V194 : GoodIn uX9_sets (wsV RX9 194 RX2 yX2_stands uX2_stands) := goodIn_p _ [6] rfl (by decide +kernel)
set_option maxHeartbeats 4000000 in
set_option maxRecDepth 100000 in
theorem kX9_sets (l : Launch) (dC : Nat → ClassId) (dI : Nat → Nat → Nat) (h0 : Nat) (tp : Nat) (sc : Nat) (rd : Nat) (cu : Nat) (im : Nat) (ig : Nat) (sl : Nat) (se : Nat) (su : Nat) (fc : Nat) (fa : Nat) (lu : Nat) (a1 : Int32) : Met l yX9_sets uX9_sets ({ frames := 1, cells := 0, slots := 0, locals := 20 }) (va_Pc [.ref h0, .int a1] (pw (dC, dI) vwCl [(h0, .inr (7, [.ref tp, .ref sc, .ref rd, .ref cu, .ref im, .ref ig, .ref sl, .ref se, .ref su, .ref fc])), (cu, .inr (1, [.int 0, .int 0, .int 0, .int 0, .int 0, .ref fa, .ref lu]))] [])) (vp_Sl (fun r => r = (-2))) 0 0 (fun _ => False) := by
  refine Met.ofW (cc := cX9_sets) (maxL := 2) (ret := (some .long)) (by decide) rfl ?_
  intro p e s m args below meth c s₁ B hml hv
  obtain ⟨rfl, hP, hK, hN⟩ := hv
  have hx := B.exec
  have hb := B.bytes
  have hr := B.returns
  have hts := atoms_spec (ws := uX9_sets) B.pre
  have hown : s.vm.findClass RX9 = some m.cls := findClass_of_methodNamed B.named
  have hlocks := B.notSynchronized
  have hl := lv_entry ([.ref h0, .int a1]) (n := 2) (Nat.le_of_ble_eq_true rfl)
  rw [lg_entry_eq]
  generalize (lg_sl ([.ref h0, .int a1]) ++ List.replicate (2 - (lg_sl ([.ref h0, .int a1])).length) Slot.unset).toArray = ls at hl ⊢
  have hl : lv_has ls 2 [(0, .ref h0), (1, .int a1)] := hl
  refine lv_aload_n hx hb dX9_sets_0 rfl (lv_at hl 0 rfl) ?_
  refine va_get (D := (dC, dI)) (ci := 7) (v := .ref cu) (C := RX9) (T := TX9) (N := 10) hx hb hts iX9_sets_X9 hown hK hP 0 rfl rfl 3 (by decide) (hts (.fieldLink RX9 35 "LuckyTicket" "current" "LLuckyTicket$Roll;") (List.mem_of_getElem? (i := 1) rfl)) (fun _ h9 => h9) rfl dX9_sets_1 ?_
  refine vp_callSi (W.runV (As := []) (rest := []) ⟨hx, hb, hml, hown, hts⟩ (kX2_stands l dC dI cu fa lu) (cwV 0 hts gX9_sets__X2_stands_V194 rfl rfl rfl (by decide +kernel) ⟨lel 1 1 rfl, lel 20 20 rfl⟩) ⟨pw_fb, va_recv hK hP (ci := 1) (q0 := 1) rfl rfl, (pw_use hP hK hN [1] rfl [] rfl)⟩ rfl rfl hl.1 rfl (lv_room (Nat.le_of_ble_eq_true rfl)) dX9_sets_4 ⟨lel 0 0 rfl, lel 0 0 rfl⟩) (fun r_1 hr_1 => ?_)
  obtain rfl : r_1 = 0 := hr_1
  refine lv_if_eq (tgt := 19) hx hb dX9_sets_7 (by decide) (fun _ => ?_) (fun c_2 => absurd c_2 (by decide))
  refine lv_ldc2 (v := (-2)) hx hb hown (hts (.constantLong RX9 265 (-2)) (List.mem_of_getElem? (i := 8) rfl)) dX9_sets_19 ?_
  exact W.lret (v := (-2)) hx hb hr (fun t ht hW => ⟨(-2), rfl, rfl, ht⟩) t_nil dX9_sets_22
theorem dX9_between_0 : decode cX9_between 0 = .ok (.aload_n 0, 1) := by decide +kernel
theorem dX9_between_1 : decode cX9_between 1 = .ok (.iload_n 1, 1) := by decide +kernel
theorem dX9_between_2 : decode cX9_between 2 = .ok (.iload_n 2, 1) := by decide +kernel
theorem dX9_between_3 : decode cX9_between 3 = .ok (.invokevirtual 137, 3) := by decide +kernel
theorem dX9_between_6 : decode cX9_between 6 = .ok (.ifCond .eq 19, 3) := by decide +kernel
theorem dX9_between_25 : decode cX9_between 25 = .ok (.bipush (-2), 2) := by decide +kernel
theorem dX9_between_27 : decode cX9_between 27 = .ok (.ireturn, 1) := by decide +kernel
def uX9_between : List Cond := .code yX9_between cX9_between 4 (some .int) :: ([.methodLink RX9 137 yX9_hasBoth, .instanceMethod yX9_hasBoth, .selects RX9 yX9_hasBoth yX9_hasBoth, .initialized RX9, .code yX9_hasBoth cX9_hasBoth 3 (some .boolean), .fieldLink RX9 35 "LuckyTicket" "current" "LLuckyTicket$Roll;", .methodLink RX9 149 yX2_hasLaw, .instanceMethod yX2_hasLaw, .selects RX2 yX2_hasLaw yX2_hasLaw, .initialized RX2, .code yX2_hasLaw cX2_hasLaw 2 (some .boolean), .fieldLink RX2 33 "LuckyTicket$Roll" "laws" "I"] ++ wsX90 ++ wsX20)
theorem iX9_between_X9 : ∀ w ∈ wsX90, w ∈ uX9_between := fun _ h => List.mem_cons_of_mem _ (List.mem_append_left _ (List.mem_append_right _ h))
theorem iX9_between_X2 : ∀ w ∈ wsX20, w ∈ uX9_between := fun _ h => List.mem_cons_of_mem _ (List.mem_append_right _ h)
set_option maxRecDepth 20000 in
theorem gX9_between__X9_hasBoth_V137 : GoodIn uX9_between (wsV RX9 137 RX9 yX9_hasBoth uX9_hasBoth) := goodIn_p _ [5, 11] rfl (by decide +kernel)
set_option maxHeartbeats 4000000 in
set_option maxRecDepth 100000 in
theorem kX9_between (l : Launch) (dC : Nat → ClassId) (dI : Nat → Nat → Nat) (h0 : Nat) (tp : Nat) (sc : Nat) (rd : Nat) (cu : Nat) (im : Nat) (ig : Nat) (sl : Nat) (se : Nat) (su : Nat) (fc : Nat) (fa : Nat) (lu : Nat) (a1 : Int32) (a2 : Int32) (a3 : Int32) : Met l yX9_between uX9_between ({ frames := 2, cells := 0, slots := 0, locals := 43 }) (va_Pc [.ref h0, .int a1, .int a2, .int a3] (pw (dC, dI) vwCl [(h0, .inr (7, [.ref tp, .ref sc, .ref rd, .ref cu, .ref im, .ref ig, .ref sl, .ref se, .ref su, .ref fc])), (cu, .inr (1, [.int 0, .int 0, .int 0, .int 0, .int 0, .ref fa, .ref lu]))] [])) (vp_Si (fun r => r = (-2))) 0 0 (fun _ => False) := by
  refine Met.ofW (cc := cX9_between) (maxL := 4) (ret := (some .int)) (by decide) rfl ?_
  intro p e s m args below meth c s₁ B hml hv
  obtain ⟨rfl, hP, hK, hN⟩ := hv
  have hx := B.exec
  have hb := B.bytes
  have hr := B.returns
  have hts := atoms_spec (ws := uX9_between) B.pre
  have hown : s.vm.findClass RX9 = some m.cls := findClass_of_methodNamed B.named
  have hlocks := B.notSynchronized
  have hl := lv_entry ([.ref h0, .int a1, .int a2, .int a3]) (n := 4) (Nat.le_of_ble_eq_true rfl)
  rw [lg_entry_eq]
  generalize (lg_sl ([.ref h0, .int a1, .int a2, .int a3]) ++ List.replicate (4 - (lg_sl ([.ref h0, .int a1, .int a2, .int a3])).length) Slot.unset).toArray = ls at hl ⊢
  have hl : lv_has ls 4 [(0, .ref h0), (1, .int a1), (2, .int a2), (3, .int a3)] := hl
  refine lv_aload_n hx hb dX9_between_0 rfl (lv_at hl 0 rfl) ?_
  refine lv_iload_n hx hb dX9_between_1 rfl (lv_at hl 1 rfl) ?_
  refine lv_iload_n hx hb dX9_between_2 rfl (lv_at hl 2 rfl) ?_
  refine vp_callSi (W.runV (As := [.int a1, .int a2]) (rest := []) ⟨hx, hb, hml, hown, hts⟩ (kX9_hasBoth l dC dI h0 tp sc rd cu im ig sl se su fc fa lu a1 a2) (cwV 2 hts gX9_between__X9_hasBoth_V137 rfl rfl rfl (by decide +kernel) ⟨lel 2 2 rfl, lel 43 43 rfl⟩) ⟨pw_fb, va_recv hK hP (ci := 7) (q0 := 0) rfl rfl, (pw_use hP hK hN [0, 1] rfl [] rfl)⟩ rfl rfl hl.1 rfl (lv_room (Nat.le_of_ble_eq_true rfl)) dX9_between_3 ⟨lel 0 0 rfl, lel 0 0 rfl⟩) (fun r_1 hr_1 => ?_)
  obtain rfl : r_1 = 0 := hr_1
  refine lv_if_eq (tgt := 25) hx hb dX9_between_6 (by decide) (fun _ => ?_) (fun c_2 => absurd c_2 (by decide))
  refine lv_bipush (v := (-2)) hx hb dX9_between_25 (by decide) ?_
  exact W.iret (v := (-2)) hx hb hr (fun t ht hW => ⟨(-2), rfl, rfl, ht⟩) t_nil dX9_between_27
theorem dX9_run_0 : decode cX9_run 0 = .ok (.aload_n 0, 1) := by decide +kernel
theorem dX9_run_1 : decode cX9_run 1 = .ok (.getfield 35, 3) := by decide +kernel
theorem dX9_run_4 : decode cX9_run 4 = .ok (.iload_n 1, 1) := by decide +kernel
theorem dX9_run_5 : decode cX9_run 5 = .ok (.invokevirtual 149, 3) := by decide +kernel
theorem dX9_run_8 : decode cX9_run 8 = .ok (.ifCond .eq 12, 3) := by decide +kernel
theorem dX9_run_20 : decode cX9_run 20 = .ok (.bipush (-2), 2) := by decide +kernel
theorem dX9_run_22 : decode cX9_run 22 = .ok (.ireturn, 1) := by decide +kernel
def uX9_run : List Cond := .code yX9_run cX9_run 7 (some .int) :: ([.fieldLink RX9 35 "LuckyTicket" "current" "LLuckyTicket$Roll;", .methodLink RX9 149 yX2_hasLaw, .instanceMethod yX2_hasLaw, .selects RX2 yX2_hasLaw yX2_hasLaw, .initialized RX2, .code yX2_hasLaw cX2_hasLaw 2 (some .boolean), .fieldLink RX2 33 "LuckyTicket$Roll" "laws" "I"] ++ wsX90 ++ wsX20)
theorem iX9_run_X9 : ∀ w ∈ wsX90, w ∈ uX9_run := fun _ h => List.mem_cons_of_mem _ (List.mem_append_left _ (List.mem_append_right _ h))
theorem iX9_run_X2 : ∀ w ∈ wsX20, w ∈ uX9_run := fun _ h => List.mem_cons_of_mem _ (List.mem_append_right _ h)
set_option maxRecDepth 20000 in
theorem gX9_run__X2_hasLaw_V149 : GoodIn uX9_run (wsV RX9 149 RX2 yX2_hasLaw uX2_hasLaw) := goodIn_p _ [6] rfl (by decide +kernel)
set_option maxHeartbeats 4000000 in
set_option maxRecDepth 100000 in
theorem kX9_run (l : Launch) (dC : Nat → ClassId) (dI : Nat → Nat → Nat) (h0 : Nat) (tp : Nat) (sc : Nat) (rd : Nat) (cu : Nat) (im : Nat) (ig : Nat) (sl : Nat) (se : Nat) (su : Nat) (fc : Nat) (fa : Nat) (lu : Nat) (a1 : Int32) (a2 : Int32) : Met l yX9_run uX9_run ({ frames := 1, cells := 0, slots := 0, locals := 21 }) (va_Pc [.ref h0, .int a1, .int a2] (pw (dC, dI) vwCl [(h0, .inr (7, [.ref tp, .ref sc, .ref rd, .ref cu, .ref im, .ref ig, .ref sl, .ref se, .ref su, .ref fc])), (cu, .inr (1, [.int 0, .int 0, .int 0, .int 0, .int 0, .ref fa, .ref lu]))] [])) (vp_Si (fun r => r = (-2))) 0 0 (fun _ => False) := by
  refine Met.ofW (cc := cX9_run) (maxL := 7) (ret := (some .int)) (by decide) rfl ?_
  intro p e s m args below meth c s₁ B hml hv
  obtain ⟨rfl, hP, hK, hN⟩ := hv
  have hx := B.exec
  have hb := B.bytes
  have hr := B.returns
  have hts := atoms_spec (ws := uX9_run) B.pre
  have hown : s.vm.findClass RX9 = some m.cls := findClass_of_methodNamed B.named
  have hlocks := B.notSynchronized
  have hl := lv_entry ([.ref h0, .int a1, .int a2]) (n := 7) (Nat.le_of_ble_eq_true rfl)
  rw [lg_entry_eq]
  generalize (lg_sl ([.ref h0, .int a1, .int a2]) ++ List.replicate (7 - (lg_sl ([.ref h0, .int a1, .int a2])).length) Slot.unset).toArray = ls at hl ⊢
  have hl : lv_has ls 7 [(0, .ref h0), (1, .int a1), (2, .int a2)] := hl
  refine lv_aload_n hx hb dX9_run_0 rfl (lv_at hl 0 rfl) ?_
  refine va_get (D := (dC, dI)) (ci := 7) (v := .ref cu) (C := RX9) (T := TX9) (N := 10) hx hb hts iX9_run_X9 hown hK hP 0 rfl rfl 3 (by decide) (hts (.fieldLink RX9 35 "LuckyTicket" "current" "LLuckyTicket$Roll;") (List.mem_of_getElem? (i := 1) rfl)) (fun _ h9 => h9) rfl dX9_run_1 ?_
  refine lv_iload_n hx hb dX9_run_4 rfl (lv_at hl 1 rfl) ?_
  refine vp_callSi (W.runV (As := [.int a1]) (rest := []) ⟨hx, hb, hml, hown, hts⟩ (kX2_hasLaw l dC dI cu fa lu a1) (cwV 1 hts gX9_run__X2_hasLaw_V149 rfl rfl rfl (by decide +kernel) ⟨lel 1 1 rfl, lel 21 21 rfl⟩) ⟨pw_fb, va_recv hK hP (ci := 1) (q0 := 1) rfl rfl, (pw_use hP hK hN [1] rfl [] rfl)⟩ rfl rfl hl.1 rfl (lv_room (Nat.le_of_ble_eq_true rfl)) dX9_run_5 ⟨lel 0 0 rfl, lel 0 0 rfl⟩) (fun r_1 hr_1 => ?_)
  obtain rfl : r_1 = 0 := hr_1
  refine lv_if_eq (tgt := 20) hx hb dX9_run_8 (by decide) (fun _ => ?_) (fun c_2 => absurd c_2 (by decide))
  refine lv_bipush (v := (-2)) hx hb dX9_run_20 (by decide) ?_
  exact W.iret (v := (-2)) hx hb hr (fun t ht hW => ⟨(-2), rfl, rfl, ht⟩) t_nil dX9_run_22
theorem dX9_window_0 : decode cX9_window 0 = .ok (.aload_n 0, 1) := by decide +kernel
theorem dX9_window_1 : decode cX9_window 1 = .ok (.getfield 35, 3) := by decide +kernel
theorem dX9_window_4 : decode cX9_window 4 = .ok (.iload_n 1, 1) := by decide +kernel
theorem dX9_window_5 : decode cX9_window 5 = .ok (.invokevirtual 149, 3) := by decide +kernel
theorem dX9_window_8 : decode cX9_window 8 = .ok (.ifCond .eq 27, 3) := by decide +kernel
theorem dX9_window_35 : decode cX9_window 35 = .ok (.bipush (-2), 2) := by decide +kernel
theorem dX9_window_37 : decode cX9_window 37 = .ok (.ireturn, 1) := by decide +kernel
def uX9_window : List Cond := .code yX9_window cX9_window 9 (some .int) :: ([.fieldLink RX9 35 "LuckyTicket" "current" "LLuckyTicket$Roll;", .methodLink RX9 149 yX2_hasLaw, .instanceMethod yX2_hasLaw, .selects RX2 yX2_hasLaw yX2_hasLaw, .initialized RX2, .code yX2_hasLaw cX2_hasLaw 2 (some .boolean), .fieldLink RX2 33 "LuckyTicket$Roll" "laws" "I"] ++ wsX90 ++ wsX20)
theorem iX9_window_X9 : ∀ w ∈ wsX90, w ∈ uX9_window := fun _ h => List.mem_cons_of_mem _ (List.mem_append_left _ (List.mem_append_right _ h))
theorem iX9_window_X2 : ∀ w ∈ wsX20, w ∈ uX9_window := fun _ h => List.mem_cons_of_mem _ (List.mem_append_right _ h)
set_option maxRecDepth 20000 in
theorem gX9_window__X2_hasLaw_V149 : GoodIn uX9_window (wsV RX9 149 RX2 yX2_hasLaw uX2_hasLaw) := goodIn_p _ [6] rfl (by decide +kernel)
set_option maxHeartbeats 4000000 in
set_option maxRecDepth 100000 in
theorem kX9_window (l : Launch) (dC : Nat → ClassId) (dI : Nat → Nat → Nat) (h0 : Nat) (tp : Nat) (sc : Nat) (rd : Nat) (cu : Nat) (im : Nat) (ig : Nat) (sl : Nat) (se : Nat) (su : Nat) (fc : Nat) (fa : Nat) (lu : Nat) (a1 : Int32) (a2 : Int32) (a3 : Int32) : Met l yX9_window uX9_window ({ frames := 1, cells := 0, slots := 0, locals := 21 }) (va_Pc [.ref h0, .int a1, .int a2, .int a3] (pw (dC, dI) vwCl [(h0, .inr (7, [.ref tp, .ref sc, .ref rd, .ref cu, .ref im, .ref ig, .ref sl, .ref se, .ref su, .ref fc])), (cu, .inr (1, [.int 0, .int 0, .int 0, .int 0, .int 0, .ref fa, .ref lu]))] [])) (vp_Si (fun r => r = (-2))) 0 0 (fun _ => False) := by
  refine Met.ofW (cc := cX9_window) (maxL := 9) (ret := (some .int)) (by decide) rfl ?_
  intro p e s m args below meth c s₁ B hml hv
  obtain ⟨rfl, hP, hK, hN⟩ := hv
  have hx := B.exec
  have hb := B.bytes
  have hr := B.returns
  have hts := atoms_spec (ws := uX9_window) B.pre
  have hown : s.vm.findClass RX9 = some m.cls := findClass_of_methodNamed B.named
  have hlocks := B.notSynchronized
  have hl := lv_entry ([.ref h0, .int a1, .int a2, .int a3]) (n := 9) (Nat.le_of_ble_eq_true rfl)
  rw [lg_entry_eq]
  generalize (lg_sl ([.ref h0, .int a1, .int a2, .int a3]) ++ List.replicate (9 - (lg_sl ([.ref h0, .int a1, .int a2, .int a3])).length) Slot.unset).toArray = ls at hl ⊢
  have hl : lv_has ls 9 [(0, .ref h0), (1, .int a1), (2, .int a2), (3, .int a3)] := hl
  refine lv_aload_n hx hb dX9_window_0 rfl (lv_at hl 0 rfl) ?_
  refine va_get (D := (dC, dI)) (ci := 7) (v := .ref cu) (C := RX9) (T := TX9) (N := 10) hx hb hts iX9_window_X9 hown hK hP 0 rfl rfl 3 (by decide) (hts (.fieldLink RX9 35 "LuckyTicket" "current" "LLuckyTicket$Roll;") (List.mem_of_getElem? (i := 1) rfl)) (fun _ h9 => h9) rfl dX9_window_1 ?_
  refine lv_iload_n hx hb dX9_window_4 rfl (lv_at hl 1 rfl) ?_
  refine vp_callSi (W.runV (As := [.int a1]) (rest := []) ⟨hx, hb, hml, hown, hts⟩ (kX2_hasLaw l dC dI cu fa lu a1) (cwV 1 hts gX9_window__X2_hasLaw_V149 rfl rfl rfl (by decide +kernel) ⟨lel 1 1 rfl, lel 21 21 rfl⟩) ⟨pw_fb, va_recv hK hP (ci := 1) (q0 := 1) rfl rfl, (pw_use hP hK hN [1] rfl [] rfl)⟩ rfl rfl hl.1 rfl (lv_room (Nat.le_of_ble_eq_true rfl)) dX9_window_5 ⟨lel 0 0 rfl, lel 0 0 rfl⟩) (fun r_1 hr_1 => ?_)
  obtain rfl : r_1 = 0 := hr_1
  refine lv_if_eq (tgt := 35) hx hb dX9_window_8 (by decide) (fun _ => ?_) (fun c_2 => absurd c_2 (by decide))
  refine lv_bipush (v := (-2)) hx hb dX9_window_35 (by decide) ?_
  exact W.iret (v := (-2)) hx hb hr (fun t ht hW => ⟨(-2), rfl, rfl, ht⟩) t_nil dX9_window_37
theorem dX9_have_0 : decode cX9_have 0 = .ok (.aload_n 0, 1) := by decide +kernel
theorem dX9_have_1 : decode cX9_have 1 = .ok (.getfield 35, 3) := by decide +kernel
theorem dX9_have_4 : decode cX9_have 4 = .ok (.iload_n 1, 1) := by decide +kernel
theorem dX9_have_5 : decode cX9_have 5 = .ok (.invokevirtual 149, 3) := by decide +kernel
theorem dX9_have_8 : decode cX9_have 8 = .ok (.ifCond .eq 7, 3) := by decide +kernel
theorem dX9_have_15 : decode cX9_have 15 = .ok (.bipush (-2), 2) := by decide +kernel
theorem dX9_have_17 : decode cX9_have 17 = .ok (.ireturn, 1) := by decide +kernel
def uX9_have : List Cond := .code yX9_have cX9_have 5 (some .int) :: ([.fieldLink RX9 35 "LuckyTicket" "current" "LLuckyTicket$Roll;", .methodLink RX9 149 yX2_hasLaw, .instanceMethod yX2_hasLaw, .selects RX2 yX2_hasLaw yX2_hasLaw, .initialized RX2, .code yX2_hasLaw cX2_hasLaw 2 (some .boolean), .fieldLink RX2 33 "LuckyTicket$Roll" "laws" "I"] ++ wsX90 ++ wsX20)
theorem iX9_have_X9 : ∀ w ∈ wsX90, w ∈ uX9_have := fun _ h => List.mem_cons_of_mem _ (List.mem_append_left _ (List.mem_append_right _ h))
theorem iX9_have_X2 : ∀ w ∈ wsX20, w ∈ uX9_have := fun _ h => List.mem_cons_of_mem _ (List.mem_append_right _ h)
set_option maxRecDepth 20000 in
theorem gX9_have__X2_hasLaw_V149 : GoodIn uX9_have (wsV RX9 149 RX2 yX2_hasLaw uX2_hasLaw) := goodIn_p _ [6] rfl (by decide +kernel)
set_option maxHeartbeats 4000000 in
set_option maxRecDepth 100000 in
theorem kX9_have (l : Launch) (dC : Nat → ClassId) (dI : Nat → Nat → Nat) (h0 : Nat) (tp : Nat) (sc : Nat) (rd : Nat) (cu : Nat) (im : Nat) (ig : Nat) (sl : Nat) (se : Nat) (su : Nat) (fc : Nat) (fa : Nat) (lu : Nat) (a1 : Int32) (a2 : Int32) : Met l yX9_have uX9_have ({ frames := 1, cells := 0, slots := 0, locals := 21 }) (va_Pc [.ref h0, .int a1, .int a2] (pw (dC, dI) vwCl [(h0, .inr (7, [.ref tp, .ref sc, .ref rd, .ref cu, .ref im, .ref ig, .ref sl, .ref se, .ref su, .ref fc])), (cu, .inr (1, [.int 0, .int 0, .int 0, .int 0, .int 0, .ref fa, .ref lu]))] [])) (vp_Si (fun r => r = (-2))) 0 0 (fun _ => False) := by
  refine Met.ofW (cc := cX9_have) (maxL := 5) (ret := (some .int)) (by decide) rfl ?_
  intro p e s m args below meth c s₁ B hml hv
  obtain ⟨rfl, hP, hK, hN⟩ := hv
  have hx := B.exec
  have hb := B.bytes
  have hr := B.returns
  have hts := atoms_spec (ws := uX9_have) B.pre
  have hown : s.vm.findClass RX9 = some m.cls := findClass_of_methodNamed B.named
  have hlocks := B.notSynchronized
  have hl := lv_entry ([.ref h0, .int a1, .int a2]) (n := 5) (Nat.le_of_ble_eq_true rfl)
  rw [lg_entry_eq]
  generalize (lg_sl ([.ref h0, .int a1, .int a2]) ++ List.replicate (5 - (lg_sl ([.ref h0, .int a1, .int a2])).length) Slot.unset).toArray = ls at hl ⊢
  have hl : lv_has ls 5 [(0, .ref h0), (1, .int a1), (2, .int a2)] := hl
  refine lv_aload_n hx hb dX9_have_0 rfl (lv_at hl 0 rfl) ?_
  refine va_get (D := (dC, dI)) (ci := 7) (v := .ref cu) (C := RX9) (T := TX9) (N := 10) hx hb hts iX9_have_X9 hown hK hP 0 rfl rfl 3 (by decide) (hts (.fieldLink RX9 35 "LuckyTicket" "current" "LLuckyTicket$Roll;") (List.mem_of_getElem? (i := 1) rfl)) (fun _ h9 => h9) rfl dX9_have_1 ?_
  refine lv_iload_n hx hb dX9_have_4 rfl (lv_at hl 1 rfl) ?_
  refine vp_callSi (W.runV (As := [.int a1]) (rest := []) ⟨hx, hb, hml, hown, hts⟩ (kX2_hasLaw l dC dI cu fa lu a1) (cwV 1 hts gX9_have__X2_hasLaw_V149 rfl rfl rfl (by decide +kernel) ⟨lel 1 1 rfl, lel 21 21 rfl⟩) ⟨pw_fb, va_recv hK hP (ci := 1) (q0 := 1) rfl rfl, (pw_use hP hK hN [1] rfl [] rfl)⟩ rfl rfl hl.1 rfl (lv_room (Nat.le_of_ble_eq_true rfl)) dX9_have_5 ⟨lel 0 0 rfl, lel 0 0 rfl⟩) (fun r_1 hr_1 => ?_)
  obtain rfl : r_1 = 0 := hr_1
  refine lv_if_eq (tgt := 15) hx hb dX9_have_8 (by decide) (fun _ => ?_) (fun c_2 => absurd c_2 (by decide))
  refine lv_bipush (v := (-2)) hx hb dX9_have_15 (by decide) ?_
  exact W.iret (v := (-2)) hx hb hr (fun t ht hW => ⟨(-2), rfl, rfl, ht⟩) t_nil dX9_have_17
theorem dX9_at_0 : decode cX9_at 0 = .ok (.aload_n 0, 1) := by decide +kernel
theorem dX9_at_1 : decode cX9_at 1 = .ok (.getfield 35, 3) := by decide +kernel
theorem dX9_at_4 : decode cX9_at 4 = .ok (.iload_n 1, 1) := by decide +kernel
theorem dX9_at_5 : decode cX9_at 5 = .ok (.invokevirtual 149, 3) := by decide +kernel
theorem dX9_at_8 : decode cX9_at 8 = .ok (.ifCond .eq 26, 3) := by decide +kernel
theorem dX9_at_34 : decode cX9_at 34 = .ok (.bipush (-2), 2) := by decide +kernel
theorem dX9_at_36 : decode cX9_at 36 = .ok (.ireturn, 1) := by decide +kernel
def uX9_at : List Cond := .code yX9_at cX9_at 4 (some .int) :: ([.fieldLink RX9 35 "LuckyTicket" "current" "LLuckyTicket$Roll;", .methodLink RX9 149 yX2_hasLaw, .instanceMethod yX2_hasLaw, .selects RX2 yX2_hasLaw yX2_hasLaw, .initialized RX2, .code yX2_hasLaw cX2_hasLaw 2 (some .boolean), .fieldLink RX2 33 "LuckyTicket$Roll" "laws" "I"] ++ wsX90 ++ wsX20)
theorem iX9_at_X9 : ∀ w ∈ wsX90, w ∈ uX9_at := fun _ h => List.mem_cons_of_mem _ (List.mem_append_left _ (List.mem_append_right _ h))
theorem iX9_at_X2 : ∀ w ∈ wsX20, w ∈ uX9_at := fun _ h => List.mem_cons_of_mem _ (List.mem_append_right _ h)
set_option maxRecDepth 20000 in
theorem gX9_at__X2_hasLaw_V149 : GoodIn uX9_at (wsV RX9 149 RX2 yX2_hasLaw uX2_hasLaw) := goodIn_p _ [6] rfl (by decide +kernel)
set_option maxHeartbeats 4000000 in
set_option maxRecDepth 100000 in
theorem kX9_at (l : Launch) (dC : Nat → ClassId) (dI : Nat → Nat → Nat) (h0 : Nat) (tp : Nat) (sc : Nat) (rd : Nat) (cu : Nat) (im : Nat) (ig : Nat) (sl : Nat) (se : Nat) (su : Nat) (fc : Nat) (fa : Nat) (lu : Nat) (a1 : Int32) (a2 : Int32) (a3 : Int32) : Met l yX9_at uX9_at ({ frames := 1, cells := 0, slots := 0, locals := 21 }) (va_Pc [.ref h0, .int a1, .int a2, .int a3] (pw (dC, dI) vwCl [(h0, .inr (7, [.ref tp, .ref sc, .ref rd, .ref cu, .ref im, .ref ig, .ref sl, .ref se, .ref su, .ref fc])), (cu, .inr (1, [.int 0, .int 0, .int 0, .int 0, .int 0, .ref fa, .ref lu]))] [])) (vp_Si (fun r => r = (-2))) 0 0 (fun _ => False) := by
  refine Met.ofW (cc := cX9_at) (maxL := 4) (ret := (some .int)) (by decide) rfl ?_
  intro p e s m args below meth c s₁ B hml hv
  obtain ⟨rfl, hP, hK, hN⟩ := hv
  have hx := B.exec
  have hb := B.bytes
  have hr := B.returns
  have hts := atoms_spec (ws := uX9_at) B.pre
  have hown : s.vm.findClass RX9 = some m.cls := findClass_of_methodNamed B.named
  have hlocks := B.notSynchronized
  have hl := lv_entry ([.ref h0, .int a1, .int a2, .int a3]) (n := 4) (Nat.le_of_ble_eq_true rfl)
  rw [lg_entry_eq]
  generalize (lg_sl ([.ref h0, .int a1, .int a2, .int a3]) ++ List.replicate (4 - (lg_sl ([.ref h0, .int a1, .int a2, .int a3])).length) Slot.unset).toArray = ls at hl ⊢
  have hl : lv_has ls 4 [(0, .ref h0), (1, .int a1), (2, .int a2), (3, .int a3)] := hl
  refine lv_aload_n hx hb dX9_at_0 rfl (lv_at hl 0 rfl) ?_
  refine va_get (D := (dC, dI)) (ci := 7) (v := .ref cu) (C := RX9) (T := TX9) (N := 10) hx hb hts iX9_at_X9 hown hK hP 0 rfl rfl 3 (by decide) (hts (.fieldLink RX9 35 "LuckyTicket" "current" "LLuckyTicket$Roll;") (List.mem_of_getElem? (i := 1) rfl)) (fun _ h9 => h9) rfl dX9_at_1 ?_
  refine lv_iload_n hx hb dX9_at_4 rfl (lv_at hl 1 rfl) ?_
  refine vp_callSi (W.runV (As := [.int a1]) (rest := []) ⟨hx, hb, hml, hown, hts⟩ (kX2_hasLaw l dC dI cu fa lu a1) (cwV 1 hts gX9_at__X2_hasLaw_V149 rfl rfl rfl (by decide +kernel) ⟨lel 1 1 rfl, lel 21 21 rfl⟩) ⟨pw_fb, va_recv hK hP (ci := 1) (q0 := 1) rfl rfl, (pw_use hP hK hN [1] rfl [] rfl)⟩ rfl rfl hl.1 rfl (lv_room (Nat.le_of_ble_eq_true rfl)) dX9_at_5 ⟨lel 0 0 rfl, lel 0 0 rfl⟩) (fun r_1 hr_1 => ?_)
  obtain rfl : r_1 = 0 := hr_1
  refine lv_if_eq (tgt := 34) hx hb dX9_at_8 (by decide) (fun _ => ?_) (fun c_2 => absurd c_2 (by decide))
  refine lv_bipush (v := (-2)) hx hb dX9_at_34 (by decide) ?_
  exact W.iret (v := (-2)) hx hb hr (fun t ht hW => ⟨(-2), rfl, rfl, ht⟩) t_nil dX9_at_36
theorem dX9_mostly_0 : decode cX9_mostly 0 = .ok (.aload_n 0, 1) := by decide +kernel
theorem dX9_mostly_1 : decode cX9_mostly 1 = .ok (.getfield 35, 3) := by decide +kernel
theorem dX9_mostly_4 : decode cX9_mostly 4 = .ok (.iload_n 1, 1) := by decide +kernel
theorem dX9_mostly_5 : decode cX9_mostly 5 = .ok (.invokevirtual 149, 3) := by decide +kernel
theorem dX9_mostly_8 : decode cX9_mostly 8 = .ok (.ifCond .eq 14, 3) := by decide +kernel
theorem dX9_mostly_22 : decode cX9_mostly 22 = .ok (.bipush (-2), 2) := by decide +kernel
theorem dX9_mostly_24 : decode cX9_mostly 24 = .ok (.ireturn, 1) := by decide +kernel
def uX9_mostly : List Cond := .code yX9_mostly cX9_mostly 6 (some .int) :: ([.fieldLink RX9 35 "LuckyTicket" "current" "LLuckyTicket$Roll;", .methodLink RX9 149 yX2_hasLaw, .instanceMethod yX2_hasLaw, .selects RX2 yX2_hasLaw yX2_hasLaw, .initialized RX2, .code yX2_hasLaw cX2_hasLaw 2 (some .boolean), .fieldLink RX2 33 "LuckyTicket$Roll" "laws" "I"] ++ wsX90 ++ wsX20)
theorem iX9_mostly_X9 : ∀ w ∈ wsX90, w ∈ uX9_mostly := fun _ h => List.mem_cons_of_mem _ (List.mem_append_left _ (List.mem_append_right _ h))
theorem iX9_mostly_X2 : ∀ w ∈ wsX20, w ∈ uX9_mostly := fun _ h => List.mem_cons_of_mem _ (List.mem_append_right _ h)
set_option maxRecDepth 20000 in
theorem gX9_mostly__X2_hasLaw_V149 : GoodIn uX9_mostly (wsV RX9 149 RX2 yX2_hasLaw uX2_hasLaw) := goodIn_p _ [6] rfl (by decide +kernel)
set_option maxHeartbeats 4000000 in
set_option maxRecDepth 100000 in
theorem kX9_mostly (l : Launch) (dC : Nat → ClassId) (dI : Nat → Nat → Nat) (h0 : Nat) (tp : Nat) (sc : Nat) (rd : Nat) (cu : Nat) (im : Nat) (ig : Nat) (sl : Nat) (se : Nat) (su : Nat) (fc : Nat) (fa : Nat) (lu : Nat) (a1 : Int32) (a2 : Int32) : Met l yX9_mostly uX9_mostly ({ frames := 1, cells := 0, slots := 0, locals := 21 }) (va_Pc [.ref h0, .int a1, .int a2] (pw (dC, dI) vwCl [(h0, .inr (7, [.ref tp, .ref sc, .ref rd, .ref cu, .ref im, .ref ig, .ref sl, .ref se, .ref su, .ref fc])), (cu, .inr (1, [.int 0, .int 0, .int 0, .int 0, .int 0, .ref fa, .ref lu]))] [])) (vp_Si (fun r => r = (-2))) 0 0 (fun _ => False) := by
  refine Met.ofW (cc := cX9_mostly) (maxL := 6) (ret := (some .int)) (by decide) rfl ?_
  intro p e s m args below meth c s₁ B hml hv
  obtain ⟨rfl, hP, hK, hN⟩ := hv
  have hx := B.exec
  have hb := B.bytes
  have hr := B.returns
  have hts := atoms_spec (ws := uX9_mostly) B.pre
  have hown : s.vm.findClass RX9 = some m.cls := findClass_of_methodNamed B.named
  have hlocks := B.notSynchronized
  have hl := lv_entry ([.ref h0, .int a1, .int a2]) (n := 6) (Nat.le_of_ble_eq_true rfl)
  rw [lg_entry_eq]
  generalize (lg_sl ([.ref h0, .int a1, .int a2]) ++ List.replicate (6 - (lg_sl ([.ref h0, .int a1, .int a2])).length) Slot.unset).toArray = ls at hl ⊢
  have hl : lv_has ls 6 [(0, .ref h0), (1, .int a1), (2, .int a2)] := hl
  refine lv_aload_n hx hb dX9_mostly_0 rfl (lv_at hl 0 rfl) ?_
  refine va_get (D := (dC, dI)) (ci := 7) (v := .ref cu) (C := RX9) (T := TX9) (N := 10) hx hb hts iX9_mostly_X9 hown hK hP 0 rfl rfl 3 (by decide) (hts (.fieldLink RX9 35 "LuckyTicket" "current" "LLuckyTicket$Roll;") (List.mem_of_getElem? (i := 1) rfl)) (fun _ h9 => h9) rfl dX9_mostly_1 ?_
  refine lv_iload_n hx hb dX9_mostly_4 rfl (lv_at hl 1 rfl) ?_
  refine vp_callSi (W.runV (As := [.int a1]) (rest := []) ⟨hx, hb, hml, hown, hts⟩ (kX2_hasLaw l dC dI cu fa lu a1) (cwV 1 hts gX9_mostly__X2_hasLaw_V149 rfl rfl rfl (by decide +kernel) ⟨lel 1 1 rfl, lel 21 21 rfl⟩) ⟨pw_fb, va_recv hK hP (ci := 1) (q0 := 1) rfl rfl, (pw_use hP hK hN [1] rfl [] rfl)⟩ rfl rfl hl.1 rfl (lv_room (Nat.le_of_ble_eq_true rfl)) dX9_mostly_5 ⟨lel 0 0 rfl, lel 0 0 rfl⟩) (fun r_1 hr_1 => ?_)
  obtain rfl : r_1 = 0 := hr_1
  refine lv_if_eq (tgt := 22) hx hb dX9_mostly_8 (by decide) (fun _ => ?_) (fun c_2 => absurd c_2 (by decide))
  refine lv_bipush (v := (-2)) hx hb dX9_mostly_22 (by decide) ?_
  exact W.iret (v := (-2)) hx hb hr (fun t ht hW => ⟨(-2), rfl, rfl, ht⟩) t_nil dX9_mostly_24
theorem dX9_same_0 : decode cX9_same 0 = .ok (.aload_n 0, 1) := by decide +kernel
theorem dX9_same_1 : decode cX9_same 1 = .ok (.iload_n 1, 1) := by decide +kernel
theorem dX9_same_2 : decode cX9_same 2 = .ok (.iload_n 2, 1) := by decide +kernel
theorem dX9_same_3 : decode cX9_same 3 = .ok (.invokevirtual 137, 3) := by decide +kernel
theorem dX9_same_6 : decode cX9_same 6 = .ok (.ifCond .eq 12, 3) := by decide +kernel
theorem dX9_same_18 : decode cX9_same 18 = .ok (.bipush (-2), 2) := by decide +kernel
theorem dX9_same_20 : decode cX9_same 20 = .ok (.ireturn, 1) := by decide +kernel
def uX9_same : List Cond := .code yX9_same cX9_same 14 (some .int) :: ([.methodLink RX9 137 yX9_hasBoth, .instanceMethod yX9_hasBoth, .selects RX9 yX9_hasBoth yX9_hasBoth, .initialized RX9, .code yX9_hasBoth cX9_hasBoth 3 (some .boolean), .fieldLink RX9 35 "LuckyTicket" "current" "LLuckyTicket$Roll;", .methodLink RX9 149 yX2_hasLaw, .instanceMethod yX2_hasLaw, .selects RX2 yX2_hasLaw yX2_hasLaw, .initialized RX2, .code yX2_hasLaw cX2_hasLaw 2 (some .boolean), .fieldLink RX2 33 "LuckyTicket$Roll" "laws" "I"] ++ wsX90 ++ wsX20)
theorem iX9_same_X9 : ∀ w ∈ wsX90, w ∈ uX9_same := fun _ h => List.mem_cons_of_mem _ (List.mem_append_left _ (List.mem_append_right _ h))
theorem iX9_same_X2 : ∀ w ∈ wsX20, w ∈ uX9_same := fun _ h => List.mem_cons_of_mem _ (List.mem_append_right _ h)
set_option maxRecDepth 20000 in
theorem gX9_same__X9_hasBoth_V137 : GoodIn uX9_same (wsV RX9 137 RX9 yX9_hasBoth uX9_hasBoth) := goodIn_p _ [5, 11] rfl (by decide +kernel)
set_option maxHeartbeats 4000000 in
set_option maxRecDepth 100000 in
theorem kX9_same (l : Launch) (dC : Nat → ClassId) (dI : Nat → Nat → Nat) (h0 : Nat) (tp : Nat) (sc : Nat) (rd : Nat) (cu : Nat) (im : Nat) (ig : Nat) (sl : Nat) (se : Nat) (su : Nat) (fc : Nat) (fa : Nat) (lu : Nat) (a1 : Int32) (a2 : Int32) (a3 : Int32) : Met l yX9_same uX9_same ({ frames := 2, cells := 0, slots := 0, locals := 43 }) (va_Pc [.ref h0, .int a1, .int a2, .int a3] (pw (dC, dI) vwCl [(h0, .inr (7, [.ref tp, .ref sc, .ref rd, .ref cu, .ref im, .ref ig, .ref sl, .ref se, .ref su, .ref fc])), (cu, .inr (1, [.int 0, .int 0, .int 0, .int 0, .int 0, .ref fa, .ref lu]))] [])) (vp_Si (fun r => r = (-2))) 0 0 (fun _ => False) := by
  refine Met.ofW (cc := cX9_same) (maxL := 14) (ret := (some .int)) (by decide) rfl ?_
  intro p e s m args below meth c s₁ B hml hv
  obtain ⟨rfl, hP, hK, hN⟩ := hv
  have hx := B.exec
  have hb := B.bytes
  have hr := B.returns
  have hts := atoms_spec (ws := uX9_same) B.pre
  have hown : s.vm.findClass RX9 = some m.cls := findClass_of_methodNamed B.named
  have hlocks := B.notSynchronized
  have hl := lv_entry ([.ref h0, .int a1, .int a2, .int a3]) (n := 14) (Nat.le_of_ble_eq_true rfl)
  rw [lg_entry_eq]
  generalize (lg_sl ([.ref h0, .int a1, .int a2, .int a3]) ++ List.replicate (14 - (lg_sl ([.ref h0, .int a1, .int a2, .int a3])).length) Slot.unset).toArray = ls at hl ⊢
  have hl : lv_has ls 14 [(0, .ref h0), (1, .int a1), (2, .int a2), (3, .int a3)] := hl
  refine lv_aload_n hx hb dX9_same_0 rfl (lv_at hl 0 rfl) ?_
  refine lv_iload_n hx hb dX9_same_1 rfl (lv_at hl 1 rfl) ?_
  refine lv_iload_n hx hb dX9_same_2 rfl (lv_at hl 2 rfl) ?_
  refine vp_callSi (W.runV (As := [.int a1, .int a2]) (rest := []) ⟨hx, hb, hml, hown, hts⟩ (kX9_hasBoth l dC dI h0 tp sc rd cu im ig sl se su fc fa lu a1 a2) (cwV 2 hts gX9_same__X9_hasBoth_V137 rfl rfl rfl (by decide +kernel) ⟨lel 2 2 rfl, lel 43 43 rfl⟩) ⟨pw_fb, va_recv hK hP (ci := 7) (q0 := 0) rfl rfl, (pw_use hP hK hN [0, 1] rfl [] rfl)⟩ rfl rfl hl.1 rfl (lv_room (Nat.le_of_ble_eq_true rfl)) dX9_same_3 ⟨lel 0 0 rfl, lel 0 0 rfl⟩) (fun r_1 hr_1 => ?_)
  obtain rfl : r_1 = 0 := hr_1
  refine lv_if_eq (tgt := 18) hx hb dX9_same_6 (by decide) (fun _ => ?_) (fun c_2 => absurd c_2 (by decide))
  refine lv_bipush (v := (-2)) hx hb dX9_same_18 (by decide) ?_
  exact W.iret (v := (-2)) hx hb hr (fun t ht hW => ⟨(-2), rfl, rfl, ht⟩) t_nil dX9_same_20
theorem dX9_walk_0 : decode cX9_walk 0 = .ok (.aload_n 0, 1) := by decide +kernel
theorem dX9_walk_1 : decode cX9_walk 1 = .ok (.iload_n 1, 1) := by decide +kernel
theorem dX9_walk_2 : decode cX9_walk 2 = .ok (.iload_n 2, 1) := by decide +kernel
theorem dX9_walk_3 : decode cX9_walk 3 = .ok (.invokevirtual 137, 3) := by decide +kernel
theorem dX9_walk_6 : decode cX9_walk 6 = .ok (.ifCond .eq 14, 3) := by decide +kernel
theorem dX9_walk_20 : decode cX9_walk 20 = .ok (.bipush (-2), 2) := by decide +kernel
theorem dX9_walk_22 : decode cX9_walk 22 = .ok (.ireturn, 1) := by decide +kernel
def uX9_walk : List Cond := .code yX9_walk cX9_walk 4 (some .int) :: ([.methodLink RX9 137 yX9_hasBoth, .instanceMethod yX9_hasBoth, .selects RX9 yX9_hasBoth yX9_hasBoth, .initialized RX9, .code yX9_hasBoth cX9_hasBoth 3 (some .boolean), .fieldLink RX9 35 "LuckyTicket" "current" "LLuckyTicket$Roll;", .methodLink RX9 149 yX2_hasLaw, .instanceMethod yX2_hasLaw, .selects RX2 yX2_hasLaw yX2_hasLaw, .initialized RX2, .code yX2_hasLaw cX2_hasLaw 2 (some .boolean), .fieldLink RX2 33 "LuckyTicket$Roll" "laws" "I"] ++ wsX90 ++ wsX20)
theorem iX9_walk_X9 : ∀ w ∈ wsX90, w ∈ uX9_walk := fun _ h => List.mem_cons_of_mem _ (List.mem_append_left _ (List.mem_append_right _ h))
theorem iX9_walk_X2 : ∀ w ∈ wsX20, w ∈ uX9_walk := fun _ h => List.mem_cons_of_mem _ (List.mem_append_right _ h)
set_option maxRecDepth 20000 in
theorem gX9_walk__X9_hasBoth_V137 : GoodIn uX9_walk (wsV RX9 137 RX9 yX9_hasBoth uX9_hasBoth) := goodIn_p _ [5, 11] rfl (by decide +kernel)
set_option maxHeartbeats 4000000 in
set_option maxRecDepth 100000 in
theorem kX9_walk (l : Launch) (dC : Nat → ClassId) (dI : Nat → Nat → Nat) (h0 : Nat) (tp : Nat) (sc : Nat) (rd : Nat) (cu : Nat) (im : Nat) (ig : Nat) (sl : Nat) (se : Nat) (su : Nat) (fc : Nat) (fa : Nat) (lu : Nat) (a1 : Int32) (a2 : Int32) (a3 : Int32) : Met l yX9_walk uX9_walk ({ frames := 2, cells := 0, slots := 0, locals := 43 }) (va_Pc [.ref h0, .int a1, .int a2, .int a3] (pw (dC, dI) vwCl [(h0, .inr (7, [.ref tp, .ref sc, .ref rd, .ref cu, .ref im, .ref ig, .ref sl, .ref se, .ref su, .ref fc])), (cu, .inr (1, [.int 0, .int 0, .int 0, .int 0, .int 0, .ref fa, .ref lu]))] [])) (vp_Si (fun r => r = (-2))) 0 0 (fun _ => False) := by
  refine Met.ofW (cc := cX9_walk) (maxL := 4) (ret := (some .int)) (by decide) rfl ?_
  intro p e s m args below meth c s₁ B hml hv
  obtain ⟨rfl, hP, hK, hN⟩ := hv
  have hx := B.exec
  have hb := B.bytes
  have hr := B.returns
  have hts := atoms_spec (ws := uX9_walk) B.pre
  have hown : s.vm.findClass RX9 = some m.cls := findClass_of_methodNamed B.named
  have hlocks := B.notSynchronized
  have hl := lv_entry ([.ref h0, .int a1, .int a2, .int a3]) (n := 4) (Nat.le_of_ble_eq_true rfl)
  rw [lg_entry_eq]
  generalize (lg_sl ([.ref h0, .int a1, .int a2, .int a3]) ++ List.replicate (4 - (lg_sl ([.ref h0, .int a1, .int a2, .int a3])).length) Slot.unset).toArray = ls at hl ⊢
  have hl : lv_has ls 4 [(0, .ref h0), (1, .int a1), (2, .int a2), (3, .int a3)] := hl
  refine lv_aload_n hx hb dX9_walk_0 rfl (lv_at hl 0 rfl) ?_
  refine lv_iload_n hx hb dX9_walk_1 rfl (lv_at hl 1 rfl) ?_
  refine lv_iload_n hx hb dX9_walk_2 rfl (lv_at hl 2 rfl) ?_
  refine vp_callSi (W.runV (As := [.int a1, .int a2]) (rest := []) ⟨hx, hb, hml, hown, hts⟩ (kX9_hasBoth l dC dI h0 tp sc rd cu im ig sl se su fc fa lu a1 a2) (cwV 2 hts gX9_walk__X9_hasBoth_V137 rfl rfl rfl (by decide +kernel) ⟨lel 2 2 rfl, lel 43 43 rfl⟩) ⟨pw_fb, va_recv hK hP (ci := 7) (q0 := 0) rfl rfl, (pw_use hP hK hN [0, 1] rfl [] rfl)⟩ rfl rfl hl.1 rfl (lv_room (Nat.le_of_ble_eq_true rfl)) dX9_walk_3 ⟨lel 0 0 rfl, lel 0 0 rfl⟩) (fun r_1 hr_1 => ?_)
  obtain rfl : r_1 = 0 := hr_1
  refine lv_if_eq (tgt := 20) hx hb dX9_walk_6 (by decide) (fun _ => ?_) (fun c_2 => absurd c_2 (by decide))
  refine lv_bipush (v := (-2)) hx hb dX9_walk_20 (by decide) ?_
  exact W.iret (v := (-2)) hx hb hr (fun t ht hW => ⟨(-2), rfl, rfl, ht⟩) t_nil dX9_walk_22
theorem dX9_islands_0 : decode cX9_islands 0 = .ok (.aload_n 0, 1) := by decide +kernel
theorem dX9_islands_1 : decode cX9_islands 1 = .ok (.getfield 35, 3) := by decide +kernel
theorem dX9_islands_4 : decode cX9_islands 4 = .ok (.iload_n 1, 1) := by decide +kernel
theorem dX9_islands_5 : decode cX9_islands 5 = .ok (.invokevirtual 149, 3) := by decide +kernel
theorem dX9_islands_8 : decode cX9_islands 8 = .ok (.ifCond .eq 12, 3) := by decide +kernel
theorem dX9_islands_20 : decode cX9_islands 20 = .ok (.bipush (-2), 2) := by decide +kernel
theorem dX9_islands_22 : decode cX9_islands 22 = .ok (.ireturn, 1) := by decide +kernel
def uX9_islands : List Cond := .code yX9_islands cX9_islands 8 (some .int) :: ([.fieldLink RX9 35 "LuckyTicket" "current" "LLuckyTicket$Roll;", .methodLink RX9 149 yX2_hasLaw, .instanceMethod yX2_hasLaw, .selects RX2 yX2_hasLaw yX2_hasLaw, .initialized RX2, .code yX2_hasLaw cX2_hasLaw 2 (some .boolean), .fieldLink RX2 33 "LuckyTicket$Roll" "laws" "I"] ++ wsX90 ++ wsX20)
theorem iX9_islands_X9 : ∀ w ∈ wsX90, w ∈ uX9_islands := fun _ h => List.mem_cons_of_mem _ (List.mem_append_left _ (List.mem_append_right _ h))
theorem iX9_islands_X2 : ∀ w ∈ wsX20, w ∈ uX9_islands := fun _ h => List.mem_cons_of_mem _ (List.mem_append_right _ h)
set_option maxRecDepth 20000 in
theorem gX9_islands__X2_hasLaw_V149 : GoodIn uX9_islands (wsV RX9 149 RX2 yX2_hasLaw uX2_hasLaw) := goodIn_p _ [6] rfl (by decide +kernel)
set_option maxHeartbeats 4000000 in
set_option maxRecDepth 100000 in
theorem kX9_islands (l : Launch) (dC : Nat → ClassId) (dI : Nat → Nat → Nat) (h0 : Nat) (tp : Nat) (sc : Nat) (rd : Nat) (cu : Nat) (im : Nat) (ig : Nat) (sl : Nat) (se : Nat) (su : Nat) (fc : Nat) (fa : Nat) (lu : Nat) (a1 : Int32) (a2 : Int32) : Met l yX9_islands uX9_islands ({ frames := 1, cells := 0, slots := 0, locals := 21 }) (va_Pc [.ref h0, .int a1, .int a2] (pw (dC, dI) vwCl [(h0, .inr (7, [.ref tp, .ref sc, .ref rd, .ref cu, .ref im, .ref ig, .ref sl, .ref se, .ref su, .ref fc])), (cu, .inr (1, [.int 0, .int 0, .int 0, .int 0, .int 0, .ref fa, .ref lu]))] [])) (vp_Si (fun r => r = (-2))) 0 0 (fun _ => False) := by
  refine Met.ofW (cc := cX9_islands) (maxL := 8) (ret := (some .int)) (by decide) rfl ?_
  intro p e s m args below meth c s₁ B hml hv
  obtain ⟨rfl, hP, hK, hN⟩ := hv
  have hx := B.exec
  have hb := B.bytes
  have hr := B.returns
  have hts := atoms_spec (ws := uX9_islands) B.pre
  have hown : s.vm.findClass RX9 = some m.cls := findClass_of_methodNamed B.named
  have hlocks := B.notSynchronized
  have hl := lv_entry ([.ref h0, .int a1, .int a2]) (n := 8) (Nat.le_of_ble_eq_true rfl)
  rw [lg_entry_eq]
  generalize (lg_sl ([.ref h0, .int a1, .int a2]) ++ List.replicate (8 - (lg_sl ([.ref h0, .int a1, .int a2])).length) Slot.unset).toArray = ls at hl ⊢
  have hl : lv_has ls 8 [(0, .ref h0), (1, .int a1), (2, .int a2)] := hl
  refine lv_aload_n hx hb dX9_islands_0 rfl (lv_at hl 0 rfl) ?_
  refine va_get (D := (dC, dI)) (ci := 7) (v := .ref cu) (C := RX9) (T := TX9) (N := 10) hx hb hts iX9_islands_X9 hown hK hP 0 rfl rfl 3 (by decide) (hts (.fieldLink RX9 35 "LuckyTicket" "current" "LLuckyTicket$Roll;") (List.mem_of_getElem? (i := 1) rfl)) (fun _ h9 => h9) rfl dX9_islands_1 ?_
  refine lv_iload_n hx hb dX9_islands_4 rfl (lv_at hl 1 rfl) ?_
  refine vp_callSi (W.runV (As := [.int a1]) (rest := []) ⟨hx, hb, hml, hown, hts⟩ (kX2_hasLaw l dC dI cu fa lu a1) (cwV 1 hts gX9_islands__X2_hasLaw_V149 rfl rfl rfl (by decide +kernel) ⟨lel 1 1 rfl, lel 21 21 rfl⟩) ⟨pw_fb, va_recv hK hP (ci := 1) (q0 := 1) rfl rfl, (pw_use hP hK hN [1] rfl [] rfl)⟩ rfl rfl hl.1 rfl (lv_room (Nat.le_of_ble_eq_true rfl)) dX9_islands_5 ⟨lel 0 0 rfl, lel 0 0 rfl⟩) (fun r_1 hr_1 => ?_)
  obtain rfl : r_1 = 0 := hr_1
  refine lv_if_eq (tgt := 20) hx hb dX9_islands_8 (by decide) (fun _ => ?_) (fun c_2 => absurd c_2 (by decide))
  refine lv_bipush (v := (-2)) hx hb dX9_islands_20 (by decide) ?_
  exact W.iret (v := (-2)) hx hb hr (fun t ht hW => ⟨(-2), rfl, rfl, ht⟩) t_nil dX9_islands_22
theorem dX9_worn_0 : decode cX9_worn 0 = .ok (.aload_n 0, 1) := by decide +kernel
theorem dX9_worn_1 : decode cX9_worn 1 = .ok (.iload_n 1, 1) := by decide +kernel
theorem dX9_worn_2 : decode cX9_worn 2 = .ok (.invokevirtual 206, 3) := by decide +kernel
theorem dX9_worn_5 : decode cX9_worn 5 = .ok (.ifCond .eq 23, 3) := by decide +kernel
theorem dX9_worn_8 : decode cX9_worn 8 = .ok (.aload_n 0, 1) := by decide +kernel
theorem dX9_worn_9 : decode cX9_worn 9 = .ok (.getfield 35, 3) := by decide +kernel
theorem dX9_worn_12 : decode cX9_worn 12 = .ok (.iload_n 2, 1) := by decide +kernel
theorem dX9_worn_13 : decode cX9_worn 13 = .ok (.invokevirtual 149, 3) := by decide +kernel
theorem dX9_worn_16 : decode cX9_worn 16 = .ok (.ifCond .eq 12, 3) := by decide +kernel
theorem dX9_worn_28 : decode cX9_worn 28 = .ok (.bipush (-2), 2) := by decide +kernel
theorem dX9_worn_30 : decode cX9_worn 30 = .ok (.ireturn, 1) := by decide +kernel
def uX9_worn : List Cond := .code yX9_worn cX9_worn 10 (some .int) :: ([.methodLink RX9 206 yX9_hasSlot, .instanceMethod yX9_hasSlot, .selects RX9 yX9_hasSlot yX9_hasSlot, .initialized RX9, .code yX9_hasSlot cX9_hasSlot 2 (some .boolean), .fieldLink RX9 50 "LuckyTicket" "slots" "[LLuckyTicket$Row;", .methodLink RX9 158 yX9_isWithin, .static yX9_isWithin, .code yX9_isWithin cX9_isWithin 3 (some .boolean), .fieldLink RX9 35 "LuckyTicket" "current" "LLuckyTicket$Roll;", .methodLink RX9 149 yX2_hasLaw, .instanceMethod yX2_hasLaw, .selects RX2 yX2_hasLaw yX2_hasLaw, .initialized RX2, .code yX2_hasLaw cX2_hasLaw 2 (some .boolean), .fieldLink RX2 33 "LuckyTicket$Roll" "laws" "I"] ++ wsX90 ++ wsX20)
theorem iX9_worn_X9 : ∀ w ∈ wsX90, w ∈ uX9_worn := fun _ h => List.mem_cons_of_mem _ (List.mem_append_left _ (List.mem_append_right _ h))
theorem iX9_worn_X2 : ∀ w ∈ wsX20, w ∈ uX9_worn := fun _ h => List.mem_cons_of_mem _ (List.mem_append_right _ h)
set_option maxRecDepth 20000 in
theorem gX9_worn__X9_hasSlot_V206 : GoodIn uX9_worn (wsV RX9 206 RX9 yX9_hasSlot uX9_hasSlot) := goodIn_p _ [5, 9] rfl (by decide +kernel)
set_option maxRecDepth 20000 in
theorem gX9_worn__X2_hasLaw_V149 : GoodIn uX9_worn (wsV RX9 149 RX2 yX2_hasLaw uX2_hasLaw) := goodIn_p _ [15] rfl (by decide +kernel)
set_option maxHeartbeats 4000000 in
set_option maxRecDepth 100000 in
theorem kX9_worn (l : Launch) (dC : Nat → ClassId) (dI : Nat → Nat → Nat) (h0 : Nat) (tp : Nat) (sc : Nat) (rd : Nat) (cu : Nat) (im : Nat) (ig : Nat) (sl : Nat) (se : Nat) (su : Nat) (fc : Nat) (fa : Nat) (lu : Nat) (cS : ClassId) (sf : Nat → Option Nat) (a1 : Int32) (a2 : Int32) (a3 : Int32) : Met l yX9_worn uX9_worn ({ frames := 2, cells := 0, slots := 0, locals := 43 }) (va_Pc [.ref h0, .int a1, .int a2, .int a3] (pw (dC, dI) vwCl [(h0, .inr (7, [.ref tp, .ref sc, .ref rd, .ref cu, .ref im, .ref ig, .ref sl, .ref se, .ref su, .ref fc])), (cu, .inr (1, [.int 0, .int 0, .int 0, .int 0, .int 0, .ref fa, .ref lu])), (sl, .inl (cS, 4, .inr (.inr (.inr (.inr sf)))))] [(cS, .object RX3)])) (vp_Si (fun r => r = (-2))) 0 0 (fun _ => False) := by
  refine Met.ofW (cc := cX9_worn) (maxL := 10) (ret := (some .int)) (by decide) rfl ?_
  intro p e s m args below meth c s₁ B hml hv
  obtain ⟨rfl, hP, hK, hN⟩ := hv
  have hx := B.exec
  have hb := B.bytes
  have hr := B.returns
  have hts := atoms_spec (ws := uX9_worn) B.pre
  have hown : s.vm.findClass RX9 = some m.cls := findClass_of_methodNamed B.named
  have hlocks := B.notSynchronized
  have hl := lv_entry ([.ref h0, .int a1, .int a2, .int a3]) (n := 10) (Nat.le_of_ble_eq_true rfl)
  rw [lg_entry_eq]
  generalize (lg_sl ([.ref h0, .int a1, .int a2, .int a3]) ++ List.replicate (10 - (lg_sl ([.ref h0, .int a1, .int a2, .int a3])).length) Slot.unset).toArray = ls at hl ⊢
  have hl : lv_has ls 10 [(0, .ref h0), (1, .int a1), (2, .int a2), (3, .int a3)] := hl
  refine lv_aload_n hx hb dX9_worn_0 rfl (lv_at hl 0 rfl) ?_
  refine lv_iload_n hx hb dX9_worn_1 rfl (lv_at hl 1 rfl) ?_
  refine vp_callSi (W.runV (As := [.int a1]) (rest := []) ⟨hx, hb, hml, hown, hts⟩ (kX9_hasSlot l dC dI h0 tp sc rd cu im ig sl se su fc cS sf a1) (cwV 1 hts gX9_worn__X9_hasSlot_V206 rfl rfl rfl (by decide +kernel) ⟨lel 2 2 rfl, lel 43 43 rfl⟩) ⟨pw_fb, va_recv hK hP (ci := 7) (q0 := 0) rfl rfl, (pw_use hP hK hN [0, 2] rfl [0] rfl)⟩ rfl rfl hl.1 rfl (lv_room (Nat.le_of_ble_eq_true rfl)) dX9_worn_2 ⟨lel 0 0 rfl, lel 0 0 rfl⟩) (fun r_1 hr_1 => ?_)
  refine lv_if_eq (tgt := 28) hx hb dX9_worn_5 (by decide) (fun c_2 => ?_) (fun c_2 => ?_)
  ·
    refine lv_bipush (v := (-2)) hx hb dX9_worn_28 (by decide) ?_
    exact W.iret (v := (-2)) hx hb hr (fun t ht hW => ⟨(-2), rfl, rfl, ht⟩) t_nil dX9_worn_30
  ·
    refine lv_aload_n hx hb dX9_worn_8 rfl (lv_at hl 0 rfl) ?_
    refine va_get (D := (dC, dI)) (ci := 7) (v := .ref cu) (C := RX9) (T := TX9) (N := 10) hx hb hts iX9_worn_X9 hown hK hP 0 rfl rfl 3 (by decide) (hts (.fieldLink RX9 35 "LuckyTicket" "current" "LLuckyTicket$Roll;") (List.mem_of_getElem? (i := 10) rfl)) (fun _ h9 => h9) rfl dX9_worn_9 ?_
    refine lv_iload_n hx hb dX9_worn_12 rfl (lv_at hl 2 rfl) ?_
    refine vp_callSi (W.runV (As := [.int a2]) (rest := []) ⟨hx, hb, hml, hown, hts⟩ (kX2_hasLaw l dC dI cu fa lu a2) (cwV 1 hts gX9_worn__X2_hasLaw_V149 rfl rfl rfl (by decide +kernel) ⟨lel 1 2 rfl, lel 21 43 rfl⟩) ⟨pw_fb, va_recv hK hP (ci := 1) (q0 := 1) rfl rfl, (pw_use hP hK hN [1] rfl [] rfl)⟩ rfl rfl hl.1 rfl (lv_room (Nat.le_of_ble_eq_true rfl)) dX9_worn_13 ⟨lel 0 0 rfl, lel 0 0 rfl⟩) (fun r_3 hr_3 => ?_)
    obtain rfl : r_3 = 0 := hr_3
    refine lv_if_eq (tgt := 28) hx hb dX9_worn_16 (by decide) (fun _ => ?_) (fun c_4 => absurd c_4 (by decide))
    refine lv_bipush (v := (-2)) hx hb dX9_worn_28 (by decide) ?_
    exact W.iret (v := (-2)) hx hb hr (fun t ht hW => ⟨(-2), rfl, rfl, ht⟩) t_nil dX9_worn_30
theorem dX9_likely_0 : decode cX9_likely 0 = .ok (.aload_n 0, 1) := by decide +kernel
theorem dX9_likely_1 : decode cX9_likely 1 = .ok (.iload_n 1, 1) := by decide +kernel
theorem dX9_likely_2 : decode cX9_likely 2 = .ok (.invokevirtual 206, 3) := by decide +kernel
theorem dX9_likely_5 : decode cX9_likely 5 = .ok (.ifCond .eq 38, 3) := by decide +kernel
theorem dX9_likely_8 : decode cX9_likely 8 = .ok (.aload_n 0, 1) := by decide +kernel
theorem dX9_likely_9 : decode cX9_likely 9 = .ok (.getfield 35, 3) := by decide +kernel
theorem dX9_likely_12 : decode cX9_likely 12 = .ok (.iload_n 2, 1) := by decide +kernel
theorem dX9_likely_13 : decode cX9_likely 13 = .ok (.invokevirtual 149, 3) := by decide +kernel
theorem dX9_likely_16 : decode cX9_likely 16 = .ok (.ifCond .eq 27, 3) := by decide +kernel
theorem dX9_likely_43 : decode cX9_likely 43 = .ok (.bipush (-2), 2) := by decide +kernel
theorem dX9_likely_45 : decode cX9_likely 45 = .ok (.ireturn, 1) := by decide +kernel
def uX9_likely : List Cond := .code yX9_likely cX9_likely 13 (some .int) :: ([.methodLink RX9 206 yX9_hasSlot, .instanceMethod yX9_hasSlot, .selects RX9 yX9_hasSlot yX9_hasSlot, .initialized RX9, .code yX9_hasSlot cX9_hasSlot 2 (some .boolean), .fieldLink RX9 50 "LuckyTicket" "slots" "[LLuckyTicket$Row;", .methodLink RX9 158 yX9_isWithin, .static yX9_isWithin, .code yX9_isWithin cX9_isWithin 3 (some .boolean), .fieldLink RX9 35 "LuckyTicket" "current" "LLuckyTicket$Roll;", .methodLink RX9 149 yX2_hasLaw, .instanceMethod yX2_hasLaw, .selects RX2 yX2_hasLaw yX2_hasLaw, .initialized RX2, .code yX2_hasLaw cX2_hasLaw 2 (some .boolean), .fieldLink RX2 33 "LuckyTicket$Roll" "laws" "I"] ++ wsX90 ++ wsX20)
theorem iX9_likely_X9 : ∀ w ∈ wsX90, w ∈ uX9_likely := fun _ h => List.mem_cons_of_mem _ (List.mem_append_left _ (List.mem_append_right _ h))
theorem iX9_likely_X2 : ∀ w ∈ wsX20, w ∈ uX9_likely := fun _ h => List.mem_cons_of_mem _ (List.mem_append_right _ h)
set_option maxRecDepth 20000 in
theorem gX9_likely__X9_hasSlot_V206 : GoodIn uX9_likely (wsV RX9 206 RX9 yX9_hasSlot uX9_hasSlot) := goodIn_p _ [5, 9] rfl (by decide +kernel)
set_option maxRecDepth 20000 in
theorem gX9_likely__X2_hasLaw_V149 : GoodIn uX9_likely (wsV RX9 149 RX2 yX2_hasLaw uX2_hasLaw) := goodIn_p _ [15] rfl (by decide +kernel)
set_option maxHeartbeats 4000000 in
set_option maxRecDepth 100000 in
theorem kX9_likely (l : Launch) (dC : Nat → ClassId) (dI : Nat → Nat → Nat) (h0 : Nat) (tp : Nat) (sc : Nat) (rd : Nat) (cu : Nat) (im : Nat) (ig : Nat) (sl : Nat) (se : Nat) (su : Nat) (fc : Nat) (fa : Nat) (lu : Nat) (cS : ClassId) (sf : Nat → Option Nat) (a1 : Int32) (a2 : Int32) (a3 : Int32) (a4 : Int32) : Met l yX9_likely uX9_likely ({ frames := 2, cells := 0, slots := 0, locals := 43 }) (va_Pc [.ref h0, .int a1, .int a2, .int a3, .int a4] (pw (dC, dI) vwCl [(h0, .inr (7, [.ref tp, .ref sc, .ref rd, .ref cu, .ref im, .ref ig, .ref sl, .ref se, .ref su, .ref fc])), (cu, .inr (1, [.int 0, .int 0, .int 0, .int 0, .int 0, .ref fa, .ref lu])), (sl, .inl (cS, 4, .inr (.inr (.inr (.inr sf)))))] [(cS, .object RX3)])) (vp_Si (fun r => r = (-2))) 0 0 (fun _ => False) := by
  refine Met.ofW (cc := cX9_likely) (maxL := 13) (ret := (some .int)) (by decide) rfl ?_
  intro p e s m args below meth c s₁ B hml hv
  obtain ⟨rfl, hP, hK, hN⟩ := hv
  have hx := B.exec
  have hb := B.bytes
  have hr := B.returns
  have hts := atoms_spec (ws := uX9_likely) B.pre
  have hown : s.vm.findClass RX9 = some m.cls := findClass_of_methodNamed B.named
  have hlocks := B.notSynchronized
  have hl := lv_entry ([.ref h0, .int a1, .int a2, .int a3, .int a4]) (n := 13) (Nat.le_of_ble_eq_true rfl)
  rw [lg_entry_eq]
  generalize (lg_sl ([.ref h0, .int a1, .int a2, .int a3, .int a4]) ++ List.replicate (13 - (lg_sl ([.ref h0, .int a1, .int a2, .int a3, .int a4])).length) Slot.unset).toArray = ls at hl ⊢
  have hl : lv_has ls 13 [(0, .ref h0), (1, .int a1), (2, .int a2), (3, .int a3), (4, .int a4)] := hl
  refine lv_aload_n hx hb dX9_likely_0 rfl (lv_at hl 0 rfl) ?_
  refine lv_iload_n hx hb dX9_likely_1 rfl (lv_at hl 1 rfl) ?_
  refine vp_callSi (W.runV (As := [.int a1]) (rest := []) ⟨hx, hb, hml, hown, hts⟩ (kX9_hasSlot l dC dI h0 tp sc rd cu im ig sl se su fc cS sf a1) (cwV 1 hts gX9_likely__X9_hasSlot_V206 rfl rfl rfl (by decide +kernel) ⟨lel 2 2 rfl, lel 43 43 rfl⟩) ⟨pw_fb, va_recv hK hP (ci := 7) (q0 := 0) rfl rfl, (pw_use hP hK hN [0, 2] rfl [0] rfl)⟩ rfl rfl hl.1 rfl (lv_room (Nat.le_of_ble_eq_true rfl)) dX9_likely_2 ⟨lel 0 0 rfl, lel 0 0 rfl⟩) (fun r_1 hr_1 => ?_)
  refine lv_if_eq (tgt := 43) hx hb dX9_likely_5 (by decide) (fun c_2 => ?_) (fun c_2 => ?_)
  ·
    refine lv_bipush (v := (-2)) hx hb dX9_likely_43 (by decide) ?_
    exact W.iret (v := (-2)) hx hb hr (fun t ht hW => ⟨(-2), rfl, rfl, ht⟩) t_nil dX9_likely_45
  ·
    refine lv_aload_n hx hb dX9_likely_8 rfl (lv_at hl 0 rfl) ?_
    refine va_get (D := (dC, dI)) (ci := 7) (v := .ref cu) (C := RX9) (T := TX9) (N := 10) hx hb hts iX9_likely_X9 hown hK hP 0 rfl rfl 3 (by decide) (hts (.fieldLink RX9 35 "LuckyTicket" "current" "LLuckyTicket$Roll;") (List.mem_of_getElem? (i := 10) rfl)) (fun _ h9 => h9) rfl dX9_likely_9 ?_
    refine lv_iload_n hx hb dX9_likely_12 rfl (lv_at hl 2 rfl) ?_
    refine vp_callSi (W.runV (As := [.int a2]) (rest := []) ⟨hx, hb, hml, hown, hts⟩ (kX2_hasLaw l dC dI cu fa lu a2) (cwV 1 hts gX9_likely__X2_hasLaw_V149 rfl rfl rfl (by decide +kernel) ⟨lel 1 2 rfl, lel 21 43 rfl⟩) ⟨pw_fb, va_recv hK hP (ci := 1) (q0 := 1) rfl rfl, (pw_use hP hK hN [1] rfl [] rfl)⟩ rfl rfl hl.1 rfl (lv_room (Nat.le_of_ble_eq_true rfl)) dX9_likely_13 ⟨lel 0 0 rfl, lel 0 0 rfl⟩) (fun r_3 hr_3 => ?_)
    obtain rfl : r_3 = 0 := hr_3
    refine lv_if_eq (tgt := 43) hx hb dX9_likely_16 (by decide) (fun _ => ?_) (fun c_4 => absurd c_4 (by decide))
    refine lv_bipush (v := (-2)) hx hb dX9_likely_43 (by decide) ?_
    exact W.iret (v := (-2)) hx hb hr (fun t ht hW => ⟨(-2), rfl, rfl, ht⟩) t_nil dX9_likely_45
theorem dX9_judge_0 : decode cX9_judge 0 = .ok (.aload_n 0, 1) := by decide +kernel
theorem dX9_judge_1 : decode cX9_judge 1 = .ok (.iload_n 1, 1) := by decide +kernel
theorem dX9_judge_2 : decode cX9_judge 2 = .ok (.invokevirtual 206, 3) := by decide +kernel
theorem dX9_judge_5 : decode cX9_judge 5 = .ok (.ifCond .eq 14, 3) := by decide +kernel
theorem dX9_judge_8 : decode cX9_judge 8 = .ok (.aload_n 0, 1) := by decide +kernel
theorem dX9_judge_9 : decode cX9_judge 9 = .ok (.getfield 35, 3) := by decide +kernel
theorem dX9_judge_12 : decode cX9_judge 12 = .ok (.iload_n 2, 1) := by decide +kernel
theorem dX9_judge_13 : decode cX9_judge 13 = .ok (.invokevirtual 149, 3) := by decide +kernel
theorem dX9_judge_16 : decode cX9_judge 16 = .ok (.ifCond .ne 6, 3) := by decide +kernel
theorem dX9_judge_19 : decode cX9_judge 19 = .ok (.bipush (-2), 2) := by decide +kernel
theorem dX9_judge_21 : decode cX9_judge 21 = .ok (.ireturn, 1) := by decide +kernel
def uX9_judge : List Cond := .code yX9_judge cX9_judge 5 (some .int) :: ([.methodLink RX9 206 yX9_hasSlot, .instanceMethod yX9_hasSlot, .selects RX9 yX9_hasSlot yX9_hasSlot, .initialized RX9, .code yX9_hasSlot cX9_hasSlot 2 (some .boolean), .fieldLink RX9 50 "LuckyTicket" "slots" "[LLuckyTicket$Row;", .methodLink RX9 158 yX9_isWithin, .static yX9_isWithin, .code yX9_isWithin cX9_isWithin 3 (some .boolean), .fieldLink RX9 35 "LuckyTicket" "current" "LLuckyTicket$Roll;", .methodLink RX9 149 yX2_hasLaw, .instanceMethod yX2_hasLaw, .selects RX2 yX2_hasLaw yX2_hasLaw, .initialized RX2, .code yX2_hasLaw cX2_hasLaw 2 (some .boolean), .fieldLink RX2 33 "LuckyTicket$Roll" "laws" "I"] ++ wsX90 ++ wsX20)
theorem iX9_judge_X9 : ∀ w ∈ wsX90, w ∈ uX9_judge := fun _ h => List.mem_cons_of_mem _ (List.mem_append_left _ (List.mem_append_right _ h))
theorem iX9_judge_X2 : ∀ w ∈ wsX20, w ∈ uX9_judge := fun _ h => List.mem_cons_of_mem _ (List.mem_append_right _ h)
set_option maxRecDepth 20000 in
theorem gX9_judge__X9_hasSlot_V206 : GoodIn uX9_judge (wsV RX9 206 RX9 yX9_hasSlot uX9_hasSlot) := goodIn_p _ [5, 9] rfl (by decide +kernel)
set_option maxRecDepth 20000 in
theorem gX9_judge__X2_hasLaw_V149 : GoodIn uX9_judge (wsV RX9 149 RX2 yX2_hasLaw uX2_hasLaw) := goodIn_p _ [15] rfl (by decide +kernel)
set_option maxHeartbeats 4000000 in
set_option maxRecDepth 100000 in
theorem kX9_judge (l : Launch) (dC : Nat → ClassId) (dI : Nat → Nat → Nat) (h0 : Nat) (tp : Nat) (sc : Nat) (rd : Nat) (cu : Nat) (im : Nat) (ig : Nat) (sl : Nat) (se : Nat) (su : Nat) (fc : Nat) (fa : Nat) (lu : Nat) (cS : ClassId) (sf : Nat → Option Nat) (a1 : Int32) (a2 : Int32) : Met l yX9_judge uX9_judge ({ frames := 2, cells := 0, slots := 0, locals := 43 }) (va_Pc [.ref h0, .int a1, .int a2] (pw (dC, dI) vwCl [(h0, .inr (7, [.ref tp, .ref sc, .ref rd, .ref cu, .ref im, .ref ig, .ref sl, .ref se, .ref su, .ref fc])), (cu, .inr (1, [.int 0, .int 0, .int 0, .int 0, .int 0, .ref fa, .ref lu])), (sl, .inl (cS, 4, .inr (.inr (.inr (.inr sf)))))] [(cS, .object RX3)])) (vp_Si (fun r => r = (-2))) 0 0 (fun _ => False) := by
  refine Met.ofW (cc := cX9_judge) (maxL := 5) (ret := (some .int)) (by decide) rfl ?_
  intro p e s m args below meth c s₁ B hml hv
  obtain ⟨rfl, hP, hK, hN⟩ := hv
  have hx := B.exec
  have hb := B.bytes
  have hr := B.returns
  have hts := atoms_spec (ws := uX9_judge) B.pre
  have hown : s.vm.findClass RX9 = some m.cls := findClass_of_methodNamed B.named
  have hlocks := B.notSynchronized
  have hl := lv_entry ([.ref h0, .int a1, .int a2]) (n := 5) (Nat.le_of_ble_eq_true rfl)
  rw [lg_entry_eq]
  generalize (lg_sl ([.ref h0, .int a1, .int a2]) ++ List.replicate (5 - (lg_sl ([.ref h0, .int a1, .int a2])).length) Slot.unset).toArray = ls at hl ⊢
  have hl : lv_has ls 5 [(0, .ref h0), (1, .int a1), (2, .int a2)] := hl
  refine lv_aload_n hx hb dX9_judge_0 rfl (lv_at hl 0 rfl) ?_
  refine lv_iload_n hx hb dX9_judge_1 rfl (lv_at hl 1 rfl) ?_
  refine vp_callSi (W.runV (As := [.int a1]) (rest := []) ⟨hx, hb, hml, hown, hts⟩ (kX9_hasSlot l dC dI h0 tp sc rd cu im ig sl se su fc cS sf a1) (cwV 1 hts gX9_judge__X9_hasSlot_V206 rfl rfl rfl (by decide +kernel) ⟨lel 2 2 rfl, lel 43 43 rfl⟩) ⟨pw_fb, va_recv hK hP (ci := 7) (q0 := 0) rfl rfl, (pw_use hP hK hN [0, 2] rfl [0] rfl)⟩ rfl rfl hl.1 rfl (lv_room (Nat.le_of_ble_eq_true rfl)) dX9_judge_2 ⟨lel 0 0 rfl, lel 0 0 rfl⟩) (fun r_1 hr_1 => ?_)
  refine lv_if_eq (tgt := 19) hx hb dX9_judge_5 (by decide) (fun c_2 => ?_) (fun c_2 => ?_)
  ·
    refine lv_bipush (v := (-2)) hx hb dX9_judge_19 (by decide) ?_
    exact W.iret (v := (-2)) hx hb hr (fun t ht hW => ⟨(-2), rfl, rfl, ht⟩) t_nil dX9_judge_21
  ·
    refine lv_aload_n hx hb dX9_judge_8 rfl (lv_at hl 0 rfl) ?_
    refine va_get (D := (dC, dI)) (ci := 7) (v := .ref cu) (C := RX9) (T := TX9) (N := 10) hx hb hts iX9_judge_X9 hown hK hP 0 rfl rfl 3 (by decide) (hts (.fieldLink RX9 35 "LuckyTicket" "current" "LLuckyTicket$Roll;") (List.mem_of_getElem? (i := 10) rfl)) (fun _ h9 => h9) rfl dX9_judge_9 ?_
    refine lv_iload_n hx hb dX9_judge_12 rfl (lv_at hl 2 rfl) ?_
    refine vp_callSi (W.runV (As := [.int a2]) (rest := []) ⟨hx, hb, hml, hown, hts⟩ (kX2_hasLaw l dC dI cu fa lu a2) (cwV 1 hts gX9_judge__X2_hasLaw_V149 rfl rfl rfl (by decide +kernel) ⟨lel 1 2 rfl, lel 21 43 rfl⟩) ⟨pw_fb, va_recv hK hP (ci := 1) (q0 := 1) rfl rfl, (pw_use hP hK hN [1] rfl [] rfl)⟩ rfl rfl hl.1 rfl (lv_room (Nat.le_of_ble_eq_true rfl)) dX9_judge_13 ⟨lel 0 0 rfl, lel 0 0 rfl⟩) (fun r_3 hr_3 => ?_)
    obtain rfl : r_3 = 0 := hr_3
    refine lv_if_ne (tgt := 22) hx hb dX9_judge_16 (by decide) (fun c_4 => absurd c_4 (by decide)) (fun _ => ?_)
    refine lv_bipush (v := (-2)) hx hb dX9_judge_19 (by decide) ?_
    exact W.iret (v := (-2)) hx hb hr (fun t ht hW => ⟨(-2), rfl, rfl, ht⟩) t_nil dX9_judge_21
theorem dX9_kept_0 : decode cX9_kept 0 = .ok (.aload_n 0, 1) := by decide +kernel
theorem dX9_kept_1 : decode cX9_kept 1 = .ok (.iload_n 1, 1) := by decide +kernel
theorem dX9_kept_2 : decode cX9_kept 2 = .ok (.invokevirtual 206, 3) := by decide +kernel
theorem dX9_kept_5 : decode cX9_kept 5 = .ok (.ifCond .eq 14, 3) := by decide +kernel
theorem dX9_kept_8 : decode cX9_kept 8 = .ok (.aload_n 0, 1) := by decide +kernel
theorem dX9_kept_9 : decode cX9_kept 9 = .ok (.getfield 35, 3) := by decide +kernel
theorem dX9_kept_12 : decode cX9_kept 12 = .ok (.iload_n 2, 1) := by decide +kernel
theorem dX9_kept_13 : decode cX9_kept 13 = .ok (.invokevirtual 149, 3) := by decide +kernel
theorem dX9_kept_16 : decode cX9_kept 16 = .ok (.ifCond .ne 6, 3) := by decide +kernel
theorem dX9_kept_19 : decode cX9_kept 19 = .ok (.bipush (-2), 2) := by decide +kernel
theorem dX9_kept_21 : decode cX9_kept 21 = .ok (.ireturn, 1) := by decide +kernel
def uX9_kept : List Cond := .code yX9_kept cX9_kept 6 (some .int) :: ([.methodLink RX9 206 yX9_hasSlot, .instanceMethod yX9_hasSlot, .selects RX9 yX9_hasSlot yX9_hasSlot, .initialized RX9, .code yX9_hasSlot cX9_hasSlot 2 (some .boolean), .fieldLink RX9 50 "LuckyTicket" "slots" "[LLuckyTicket$Row;", .methodLink RX9 158 yX9_isWithin, .static yX9_isWithin, .code yX9_isWithin cX9_isWithin 3 (some .boolean), .fieldLink RX9 35 "LuckyTicket" "current" "LLuckyTicket$Roll;", .methodLink RX9 149 yX2_hasLaw, .instanceMethod yX2_hasLaw, .selects RX2 yX2_hasLaw yX2_hasLaw, .initialized RX2, .code yX2_hasLaw cX2_hasLaw 2 (some .boolean), .fieldLink RX2 33 "LuckyTicket$Roll" "laws" "I"] ++ wsX90 ++ wsX20)
theorem iX9_kept_X9 : ∀ w ∈ wsX90, w ∈ uX9_kept := fun _ h => List.mem_cons_of_mem _ (List.mem_append_left _ (List.mem_append_right _ h))
theorem iX9_kept_X2 : ∀ w ∈ wsX20, w ∈ uX9_kept := fun _ h => List.mem_cons_of_mem _ (List.mem_append_right _ h)
set_option maxRecDepth 20000 in
theorem gX9_kept__X9_hasSlot_V206 : GoodIn uX9_kept (wsV RX9 206 RX9 yX9_hasSlot uX9_hasSlot) := goodIn_p _ [5, 9] rfl (by decide +kernel)
set_option maxRecDepth 20000 in
theorem gX9_kept__X2_hasLaw_V149 : GoodIn uX9_kept (wsV RX9 149 RX2 yX2_hasLaw uX2_hasLaw) := goodIn_p _ [15] rfl (by decide +kernel)
set_option maxHeartbeats 4000000 in
set_option maxRecDepth 100000 in
theorem kX9_kept (l : Launch) (dC : Nat → ClassId) (dI : Nat → Nat → Nat) (h0 : Nat) (tp : Nat) (sc : Nat) (rd : Nat) (cu : Nat) (im : Nat) (ig : Nat) (sl : Nat) (se : Nat) (su : Nat) (fc : Nat) (fa : Nat) (lu : Nat) (cS : ClassId) (sf : Nat → Option Nat) (a1 : Int32) (a2 : Int32) : Met l yX9_kept uX9_kept ({ frames := 2, cells := 0, slots := 0, locals := 43 }) (va_Pc [.ref h0, .int a1, .int a2] (pw (dC, dI) vwCl [(h0, .inr (7, [.ref tp, .ref sc, .ref rd, .ref cu, .ref im, .ref ig, .ref sl, .ref se, .ref su, .ref fc])), (cu, .inr (1, [.int 0, .int 0, .int 0, .int 0, .int 0, .ref fa, .ref lu])), (sl, .inl (cS, 4, .inr (.inr (.inr (.inr sf)))))] [(cS, .object RX3)])) (vp_Si (fun r => r = (-2))) 0 0 (fun _ => False) := by
  refine Met.ofW (cc := cX9_kept) (maxL := 6) (ret := (some .int)) (by decide) rfl ?_
  intro p e s m args below meth c s₁ B hml hv
  obtain ⟨rfl, hP, hK, hN⟩ := hv
  have hx := B.exec
  have hb := B.bytes
  have hr := B.returns
  have hts := atoms_spec (ws := uX9_kept) B.pre
  have hown : s.vm.findClass RX9 = some m.cls := findClass_of_methodNamed B.named
  have hlocks := B.notSynchronized
  have hl := lv_entry ([.ref h0, .int a1, .int a2]) (n := 6) (Nat.le_of_ble_eq_true rfl)
  rw [lg_entry_eq]
  generalize (lg_sl ([.ref h0, .int a1, .int a2]) ++ List.replicate (6 - (lg_sl ([.ref h0, .int a1, .int a2])).length) Slot.unset).toArray = ls at hl ⊢
  have hl : lv_has ls 6 [(0, .ref h0), (1, .int a1), (2, .int a2)] := hl
  refine lv_aload_n hx hb dX9_kept_0 rfl (lv_at hl 0 rfl) ?_
  refine lv_iload_n hx hb dX9_kept_1 rfl (lv_at hl 1 rfl) ?_
  refine vp_callSi (W.runV (As := [.int a1]) (rest := []) ⟨hx, hb, hml, hown, hts⟩ (kX9_hasSlot l dC dI h0 tp sc rd cu im ig sl se su fc cS sf a1) (cwV 1 hts gX9_kept__X9_hasSlot_V206 rfl rfl rfl (by decide +kernel) ⟨lel 2 2 rfl, lel 43 43 rfl⟩) ⟨pw_fb, va_recv hK hP (ci := 7) (q0 := 0) rfl rfl, (pw_use hP hK hN [0, 2] rfl [0] rfl)⟩ rfl rfl hl.1 rfl (lv_room (Nat.le_of_ble_eq_true rfl)) dX9_kept_2 ⟨lel 0 0 rfl, lel 0 0 rfl⟩) (fun r_1 hr_1 => ?_)
  refine lv_if_eq (tgt := 19) hx hb dX9_kept_5 (by decide) (fun c_2 => ?_) (fun c_2 => ?_)
  ·
    refine lv_bipush (v := (-2)) hx hb dX9_kept_19 (by decide) ?_
    exact W.iret (v := (-2)) hx hb hr (fun t ht hW => ⟨(-2), rfl, rfl, ht⟩) t_nil dX9_kept_21
  ·
    refine lv_aload_n hx hb dX9_kept_8 rfl (lv_at hl 0 rfl) ?_
    refine va_get (D := (dC, dI)) (ci := 7) (v := .ref cu) (C := RX9) (T := TX9) (N := 10) hx hb hts iX9_kept_X9 hown hK hP 0 rfl rfl 3 (by decide) (hts (.fieldLink RX9 35 "LuckyTicket" "current" "LLuckyTicket$Roll;") (List.mem_of_getElem? (i := 10) rfl)) (fun _ h9 => h9) rfl dX9_kept_9 ?_
    refine lv_iload_n hx hb dX9_kept_12 rfl (lv_at hl 2 rfl) ?_
    refine vp_callSi (W.runV (As := [.int a2]) (rest := []) ⟨hx, hb, hml, hown, hts⟩ (kX2_hasLaw l dC dI cu fa lu a2) (cwV 1 hts gX9_kept__X2_hasLaw_V149 rfl rfl rfl (by decide +kernel) ⟨lel 1 2 rfl, lel 21 43 rfl⟩) ⟨pw_fb, va_recv hK hP (ci := 1) (q0 := 1) rfl rfl, (pw_use hP hK hN [1] rfl [] rfl)⟩ rfl rfl hl.1 rfl (lv_room (Nat.le_of_ble_eq_true rfl)) dX9_kept_13 ⟨lel 0 0 rfl, lel 0 0 rfl⟩) (fun r_3 hr_3 => ?_)
    obtain rfl : r_3 = 0 := hr_3
    refine lv_if_ne (tgt := 22) hx hb dX9_kept_16 (by decide) (fun c_4 => absurd c_4 (by decide)) (fun _ => ?_)
    refine lv_bipush (v := (-2)) hx hb dX9_kept_19 (by decide) ?_
    exact W.iret (v := (-2)) hx hb hr (fun t ht hW => ⟨(-2), rfl, rfl, ht⟩) t_nil dX9_kept_21
