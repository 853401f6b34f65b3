def fz (a : Int32) : Int32 := if a = 0 then 0 else -1
theorem fz_z {a : Int32} (h : a = 0) : (0 : Int32) = fz a := (if_pos h).symm
theorem fz_n {a : Int32} (h : ¬ a = 0) : (-1 : Int32) = fz a := (if_neg h).symm
theorem fz_lt {a : Int32} (h : a < 0) : (-1 : Int32) = fz a := fz_n (fun e => by rw [e] at h; exact absurd h (by decide))
theorem fz_gt {a : Int32} (h : ¬ a ≤ 0) : (-1 : Int32) = fz a := fz_n (fun e => by rw [e] at h; exact absurd h (by decide))
theorem fz_ge {a : Int32} (h1 : ¬ a < 0) (h2 : a ≤ 0) : a = fz a := by
  have e : a = 0 := by
    rw [Int32.lt_iff_toInt_lt] at h1; rw [Int32.le_iff_toInt_le] at h2
    have z : (0 : Int32).toInt = 0 := by decide
    exact Int32.toInt_inj.mp (by omega)
  rw [e]; rfl
theorem fz_in0 {a : Int32} (h : inr a.toInt64 0 0 = 0) : (-1 : Int32) = fz a := fz_n (fun e => by rw [e] at h; exact absurd h (by decide))
theorem fz_in1 {a : Int32} (h : ¬ inr a.toInt64 0 0 = 0) : a = fz a := by
  have q := wi_yes (n := a) (lo := 0) (hi := 0) (fun e => h ((inr_wi a 0 0).trans e))
  exact fz_ge (fun c => fa_not c q.1) q.2
def b2 (a : Int32) : Int32 := if wi a 0 2 = 0 then -2 else -6
def w2 (a : Int32) : Int32 := if wi a 0 3 = 0 then -2 else -6
def p2 (a b : Int32) : Int32 := if wi a 0 3 = 0 ∨ wi b 0 3 = 0 then -2 else -6
def ct (a : Int32) : Int32 := if a.toInt < 0 ∨ 7 < a.toInt then -1 else 0
theorem wi_3 {a : Int32} (h : ¬ wi a 0 2 = 0) : a = 0 ∨ a = 1 ∨ a = 2 := by
  obtain ⟨j, hj, rfl⟩ := wi_nat (k := 2) (by decide) h
  rcases (show j = 0 ∨ j = 1 ∨ j = 2 by omega) with rfl | rfl | rfl
  · exact Or.inl rfl
  · exact Or.inr (Or.inl rfl)
  · exact Or.inr (Or.inr rfl)
theorem ts_8 {a : Int32} (h : ¬ (a.toInt < 0 ∨ 7 < a.toInt)) : a = 0 ∨ a = 1 ∨ a = 2 ∨ a = 3 ∨ a = 4 ∨ a = 5 ∨ a = 6 ∨ a = 7 := by
  have e : ∀ (k : Int32), a.toInt = k.toInt → a = k := fun k q => Int32.toInt_inj.mp q
  rcases (show a.toInt = 0 ∨ a.toInt = 1 ∨ a.toInt = 2 ∨ a.toInt = 3 ∨ a.toInt = 4 ∨ a.toInt = 5 ∨ a.toInt = 6 ∨ a.toInt = 7 by omega) with q | q | q | q | q | q | q | q
  · exact Or.inl (e 0 q)
  · exact Or.inr (Or.inl (e 1 q))
  · exact Or.inr (Or.inr (Or.inl (e 2 q)))
  · exact Or.inr (Or.inr (Or.inr (Or.inl (e 3 q))))
  · exact Or.inr (Or.inr (Or.inr (Or.inr (Or.inl (e 4 q)))))
  · exact Or.inr (Or.inr (Or.inr (Or.inr (Or.inr (Or.inl (e 5 q))))))
  · exact Or.inr (Or.inr (Or.inr (Or.inr (Or.inr (Or.inr (Or.inl (e 6 q)))))))
  · exact Or.inr (Or.inr (Or.inr (Or.inr (Or.inr (Or.inr (Or.inr (e 7 q)))))))
theorem sf3_0 (a b c : Nat) : sf3 a b c (0 : Int32).toNatClampNeg = some a := rfl
theorem sf3_1 (a b c : Nat) : sf3 a b c (1 : Int32).toNatClampNeg = some b := rfl
theorem sf3_2 (a b c : Nat) : sf3 a b c (2 : Int32).toNatClampNeg = some c := rfl
theorem sf4_0 (a b c d : Nat) : sf4 a b c d (0 : Int32).toNatClampNeg = some a := rfl
theorem sf4_1 (a b c d : Nat) : sf4 a b c d (1 : Int32).toNatClampNeg = some b := rfl
theorem sf4_2 (a b c d : Nat) : sf4 a b c d (2 : Int32).toNatClampNeg = some c := rfl
theorem sf4_3 (a b c d : Nat) : sf4 a b c d (3 : Int32).toNatClampNeg = some d := rfl
theorem dX9_fault_0 : decode cX9_fault 0 = .ok (.iload_n 1, 1) := by decide +kernel
theorem dX9_fault_1 : decode cX9_fault 1 = .ok (.ifCond .ne 11, 3) := by decide +kernel
theorem dX9_fault_4 : decode cX9_fault 4 = .ok (.aload_n 0, 1) := by decide +kernel
theorem dX9_fault_5 : decode cX9_fault 5 = .ok (.getfield 28, 3) := by decide +kernel
theorem dX9_fault_8 : decode cX9_fault 8 = .ok (.getfield 87, 3) := by decide +kernel
theorem dX9_fault_11 : decode cX9_fault 11 = .ok (.ireturn, 1) := by decide +kernel
theorem dX9_fault_12 : decode cX9_fault 12 = .ok (.iload_n 1, 1) := by decide +kernel
theorem dX9_fault_13 : decode cX9_fault 13 = .ok (.iconst 1, 1) := by decide +kernel
theorem dX9_fault_14 : decode cX9_fault 14 = .ok (.if_icmp .ne 13, 3) := by decide +kernel
theorem dX9_fault_17 : decode cX9_fault 17 = .ok (.aload_n 0, 1) := by decide +kernel
theorem dX9_fault_18 : decode cX9_fault 18 = .ok (.getfield 28, 3) := by decide +kernel
theorem dX9_fault_21 : decode cX9_fault 21 = .ok (.getfield 97, 3) := by decide +kernel
theorem dX9_fault_24 : decode cX9_fault 24 = .ok (.goto 4, 3) := by decide +kernel
theorem dX9_fault_27 : decode cX9_fault 27 = .ok (.iconst (-1), 1) := by decide +kernel
theorem dX9_fault_28 : decode cX9_fault 28 = .ok (.ireturn, 1) := by decide +kernel
def uX9_fault : List Cond := .code yX9_fault cX9_fault 2 (some .int) :: ([.fieldLink RX9 28 "LuckyTicket" "reader" "LLuckyTicket$Reader;"] ++ wsX90 ++ wsX10)
theorem iX9_fault_X9 : ∀ w ∈ wsX90, w ∈ uX9_fault := fun _ h => List.mem_cons_of_mem _ (List.mem_append_left _ (List.mem_append_right _ h))
theorem iX9_fault_X1 : ∀ w ∈ wsX10, w ∈ uX9_fault := fun _ h => List.mem_cons_of_mem _ (List.mem_append_right _ h)
set_option maxHeartbeats 4000000 in
set_option maxRecDepth 100000 in
theorem kX9_fault (l : Launch) (dC : Nat → ClassId) (dI : Nat → Nat → Nat) (h0 : Nat) (tp : Nat) (sc : Nat) (rd : Nat) (cu : Nat) (im : Nat) (ig : Nat) (sl : Nat) (se : Nat) (su : Nat) (fc : Nat) (a1 : Int32) : Met l yX9_fault uX9_fault ({ frames := 0, cells := 0, slots := 0, locals := 0 }) (va_Pc [.ref h0, .int a1] (pw (dC, dI) vwCl [(h0, .inr (7, [.ref tp, .ref sc, .ref rd, .ref cu, .ref im, .ref ig, .ref sl, .ref se, .ref su, .ref fc])), (rd, .inr (0, [.ref tp, .ref sc, .int 0, .int (-1), .int 0, .int 0, .int 0, .int 0, .int 0]))] [])) (vp_Si (fun r => r = fz a1)) 0 0 (fun _ => False) := by
  refine Met.ofW (cc := cX9_fault) (maxL := 2) (ret := (some .int)) (by decide) rfl ?_
  intro p e s m args below meth c s₁ B hml hv
  obtain ⟨rfl, hP, hK, hN⟩ := hv
  have hx := B.exec
  have hb := B.bytes
  have hr := B.returns
  have hts := atoms_spec (ws := uX9_fault) B.pre
  have hown : s.vm.findClass RX9 = some m.cls := findClass_of_methodNamed B.named
  have hlocks := B.notSynchronized
  have hl := lv_entry ([.ref h0, .int a1]) (n := 2) (Nat.le_of_ble_eq_true rfl)
  rw [lg_entry_eq]
  generalize (lg_sl ([.ref h0, .int a1]) ++ List.replicate (2 - (lg_sl ([.ref h0, .int a1])).length) Slot.unset).toArray = ls at hl ⊢
  have hl : lv_has ls 2 [(0, .ref h0), (1, .int a1)] := hl
  refine lv_iload_n hx hb dX9_fault_0 rfl (lv_at hl 1 rfl) ?_
  refine lv_if_ne (tgt := 12) hx hb dX9_fault_1 (by decide) (fun c_1 => ?_) (fun c_1 => ?_)
  ·
    refine lv_iload_n hx hb dX9_fault_12 rfl (lv_at hl 1 rfl) ?_
    refine lv_iconst (v := 1) hx hb dX9_fault_13 (by decide) ?_
    refine lv_icmp_ne (tgt := 27) hx hb dX9_fault_14 (by decide) (fun c_2 => ?_) (fun c_2 => ?_)
    ·
      refine lv_iconst (v := (-1)) hx hb dX9_fault_27 (by decide) ?_
      exact W.iret (v := (-1)) hx hb hr (fun t ht hW => ⟨(-1), rfl, fz_n c_1, ht⟩) t_nil dX9_fault_28
    ·
      refine lv_aload_n hx hb dX9_fault_17 rfl (lv_at hl 0 rfl) ?_
      refine va_get (D := (dC, dI)) (ci := 7) (v := .ref rd) (C := RX9) (T := TX9) (N := 10) hx hb hts iX9_fault_X9 hown hK hP 0 rfl rfl 2 (by decide) (hts (.fieldLink RX9 28 "LuckyTicket" "reader" "LLuckyTicket$Reader;") (List.mem_of_getElem? (i := 1) rfl)) (fun _ h9 => h9) rfl dX9_fault_18 ?_
      refine va_getN (own := RX9) (index := 97) (ref := RX1) (host := RX9) (D := (dC, dI)) (ci := 0) (v := .int (-1)) (C := RX1) (T := TX1) (N := 9) hx hb hts iX9_fault_X1 hown hK hP 1 rfl rfl 3 (by decide) (va_Nw.use rfl (hN _ (List.mem_of_getElem? (i := 12) rfl))) (fun _ h9 => h9) rfl dX9_fault_21 ?_
      refine lv_goto (tgt := 28) hx hb dX9_fault_24 (by decide) ?_
      exact W.iret (v := (-1)) hx hb hr (fun t ht hW => ⟨(-1), rfl, fz_n c_1, ht⟩) t_nil dX9_fault_28
  ·
    refine lv_aload_n hx hb dX9_fault_4 rfl (lv_at hl 0 rfl) ?_
    refine va_get (D := (dC, dI)) (ci := 7) (v := .ref rd) (C := RX9) (T := TX9) (N := 10) hx hb hts iX9_fault_X9 hown hK hP 0 rfl rfl 2 (by decide) (hts (.fieldLink RX9 28 "LuckyTicket" "reader" "LLuckyTicket$Reader;") (List.mem_of_getElem? (i := 1) rfl)) (fun _ h9 => h9) rfl dX9_fault_5 ?_
    refine va_getN (own := RX9) (index := 87) (ref := RX1) (host := RX9) (D := (dC, dI)) (ci := 0) (v := .int 0) (C := RX1) (T := TX1) (N := 9) hx hb hts iX9_fault_X1 hown hK hP 1 rfl rfl 2 (by decide) (va_Nw.use rfl (hN _ (List.mem_of_getElem? (i := 11) rfl))) (fun _ h9 => h9) rfl dX9_fault_8 ?_
    exact W.iret (v := 0) hx hb hr (fun t ht hW => ⟨0, rfl, fz_z c_1, ht⟩) t_nil dX9_fault_11
theorem dX10_fault_0 : decode cX10_fault 0 = .ok (.iload_n 1, 1) := by decide +kernel
theorem dX10_fault_1 : decode cX10_fault 1 = .ok (.ifCond .ne 10, 3) := by decide +kernel
theorem dX10_fault_4 : decode cX10_fault 4 = .ok (.aload_n 0, 1) := by decide +kernel
theorem dX10_fault_5 : decode cX10_fault 5 = .ok (.getfield 134, 3) := by decide +kernel
theorem dX10_fault_8 : decode cX10_fault 8 = .ok (.goto 16, 3) := by decide +kernel
theorem dX10_fault_11 : decode cX10_fault 11 = .ok (.iload_n 1, 1) := by decide +kernel
theorem dX10_fault_12 : decode cX10_fault 12 = .ok (.iconst 1, 1) := by decide +kernel
theorem dX10_fault_13 : decode cX10_fault 13 = .ok (.if_icmp .ne 10, 3) := by decide +kernel
theorem dX10_fault_16 : decode cX10_fault 16 = .ok (.aload_n 0, 1) := by decide +kernel
theorem dX10_fault_17 : decode cX10_fault 17 = .ok (.getfield 30, 3) := by decide +kernel
theorem dX10_fault_20 : decode cX10_fault 20 = .ok (.goto 4, 3) := by decide +kernel
theorem dX10_fault_23 : decode cX10_fault 23 = .ok (.iconst (-1), 1) := by decide +kernel
theorem dX10_fault_24 : decode cX10_fault 24 = .ok (.ireturn, 1) := by decide +kernel
def uX10_fault : List Cond := .code yX10_fault cX10_fault 2 (some .int) :: ([.fieldLink RX10 30 "LuckyTicketModel" "faultPlace" "I", .fieldLink RX10 134 "LuckyTicketModel" "faultKind" "I"] ++ wsX100)
theorem iX10_fault_X10 : ∀ w ∈ wsX100, w ∈ uX10_fault := fun _ h => List.mem_cons_of_mem _ (List.mem_append_right _ h)
set_option maxHeartbeats 4000000 in
set_option maxRecDepth 100000 in
theorem kX10_fault (l : Launch) (dC : Nat → ClassId) (dI : Nat → Nat → Nat) (h0 : Nat) (m_world : Nat) (m_images : Nat) (m_hasImage : Nat) (m_luck : Nat) (m_tape : Nat) (m_five : Nat) (m_fresh : Nat) (m_waits : Nat) (m_figures : Nat) (m_pile : Nat) (m_times : Nat) (m_far : Nat) (m_queue : Nat) (m_months : Nat) (m_ways : Nat) (m_waysOn : Nat) (m_many : Nat) (m_width : Nat) (m_numbers : Nat) (m_moving : Nat) (a1 : Int32) : Met l yX10_fault uX10_fault ({ frames := 0, cells := 0, slots := 0, locals := 0 }) (va_Pc [.ref h0, .int a1] (pw (dC, dI) vwCl [(h0, .inr (8, [.int 0, .ref m_world, .ref m_images, .ref m_hasImage, .ref m_luck, .ref m_tape, .int 0, .ref m_five, .int 0, .int 0, .int 0, .int 0, .int 0, .int 0, .int (-1), .ref m_fresh, .ref m_waits, .int 0, .int 0, .int 0, .ref m_figures, .ref m_pile, .long 0, .ref m_times, .ref m_far, .ref m_queue, .ref m_months, .ref m_ways, .ref m_waysOn, .ref m_many, .ref m_width, .ref m_numbers, .ref m_moving]))] [])) (vp_Si (fun r => r = fz a1)) 0 0 (fun _ => False) := by
  refine Met.ofW (cc := cX10_fault) (maxL := 2) (ret := (some .int)) (by decide) rfl ?_
  intro p e s m args below meth c s₁ B hml hv
  obtain ⟨rfl, hP, hK, hN⟩ := hv
  have hx := B.exec
  have hb := B.bytes
  have hr := B.returns
  have hts := atoms_spec (ws := uX10_fault) B.pre
  have hown : s.vm.findClass RX10 = some m.cls := findClass_of_methodNamed B.named
  have hlocks := B.notSynchronized
  have hl := lv_entry ([.ref h0, .int a1]) (n := 2) (Nat.le_of_ble_eq_true rfl)
  rw [lg_entry_eq]
  generalize (lg_sl ([.ref h0, .int a1]) ++ List.replicate (2 - (lg_sl ([.ref h0, .int a1])).length) Slot.unset).toArray = ls at hl ⊢
  have hl : lv_has ls 2 [(0, .ref h0), (1, .int a1)] := hl
  refine lv_iload_n hx hb dX10_fault_0 rfl (lv_at hl 1 rfl) ?_
  refine lv_if_ne (tgt := 11) hx hb dX10_fault_1 (by decide) (fun c_1 => ?_) (fun c_1 => ?_)
  ·
    refine lv_iload_n hx hb dX10_fault_11 rfl (lv_at hl 1 rfl) ?_
    refine lv_iconst (v := 1) hx hb dX10_fault_12 (by decide) ?_
    refine lv_icmp_ne (tgt := 23) hx hb dX10_fault_13 (by decide) (fun c_2 => ?_) (fun c_2 => ?_)
    ·
      refine lv_iconst (v := (-1)) hx hb dX10_fault_23 (by decide) ?_
      exact W.iret (v := (-1)) hx hb hr (fun t ht hW => ⟨(-1), rfl, fz_n c_1, ht⟩) t_nil dX10_fault_24
    ·
      refine lv_aload_n hx hb dX10_fault_16 rfl (lv_at hl 0 rfl) ?_
      refine va_get (D := (dC, dI)) (ci := 8) (v := .int (-1)) (C := RX10) (T := TX10) (N := 33) hx hb hts iX10_fault_X10 hown hK hP 0 rfl rfl 14 (by decide) (hts (.fieldLink RX10 30 "LuckyTicketModel" "faultPlace" "I") (List.mem_of_getElem? (i := 1) rfl)) (fun _ h9 => h9) rfl dX10_fault_17 ?_
      refine lv_goto (tgt := 24) hx hb dX10_fault_20 (by decide) ?_
      exact W.iret (v := (-1)) hx hb hr (fun t ht hW => ⟨(-1), rfl, fz_n c_1, ht⟩) t_nil dX10_fault_24
  ·
    refine lv_aload_n hx hb dX10_fault_4 rfl (lv_at hl 0 rfl) ?_
    refine va_get (D := (dC, dI)) (ci := 8) (v := .int 0) (C := RX10) (T := TX10) (N := 33) hx hb hts iX10_fault_X10 hown hK hP 0 rfl rfl 13 (by decide) (hts (.fieldLink RX10 134 "LuckyTicketModel" "faultKind" "I") (List.mem_of_getElem? (i := 2) rfl)) (fun _ h9 => h9) rfl dX10_fault_5 ?_
    refine lv_goto (tgt := 24) hx hb dX10_fault_8 (by decide) ?_
    exact W.iret (v := 0) hx hb hr (fun t ht hW => ⟨0, rfl, fz_z c_1, ht⟩) t_nil dX10_fault_24
theorem dX9_back_0 : decode cX9_back 0 = .ok (.iload_n 1, 1) := by decide +kernel
theorem dX9_back_1 : decode cX9_back 1 = .ok (.iconst 0, 1) := by decide +kernel
theorem dX9_back_2 : decode cX9_back 2 = .ok (.aload_n 0, 1) := by decide +kernel
theorem dX9_back_3 : decode cX9_back 3 = .ok (.getfield 39, 3) := by decide +kernel
theorem dX9_back_6 : decode cX9_back 6 = .ok (.arraylength, 1) := by decide +kernel
theorem dX9_back_7 : decode cX9_back 7 = .ok (.iconst 1, 1) := by decide +kernel
theorem dX9_back_8 : decode cX9_back 8 = .ok (.isub, 1) := by decide +kernel
theorem dX9_back_9 : decode cX9_back 9 = .ok (.invokestatic 158, 3) := by decide +kernel
theorem dX9_back_12 : decode cX9_back 12 = .ok (.ifCond .ne 6, 3) := by decide +kernel
theorem dX9_back_15 : decode cX9_back 15 = .ok (.bipush (-2), 2) := by decide +kernel
theorem dX9_back_17 : decode cX9_back 17 = .ok (.ireturn, 1) := by decide +kernel
theorem dX9_back_18 : decode cX9_back 18 = .ok (.aload_n 0, 1) := by decide +kernel
theorem dX9_back_19 : decode cX9_back 19 = .ok (.getfield 43, 3) := by decide +kernel
theorem dX9_back_22 : decode cX9_back 22 = .ok (.iload_n 1, 1) := by decide +kernel
theorem dX9_back_23 : decode cX9_back 23 = .ok (.baload, 1) := by decide +kernel
theorem dX9_back_24 : decode cX9_back 24 = .ok (.ifCond .ne 6, 3) := by decide +kernel
theorem dX9_back_27 : decode cX9_back 27 = .ok (.bipush (-6), 2) := by decide +kernel
theorem dX9_back_29 : decode cX9_back 29 = .ok (.ireturn, 1) := by decide +kernel
def uX9_back : List Cond := .code yX9_back cX9_back 2 (some .int) :: ([.fieldLink RX9 39 "LuckyTicket" "images" "[LLuckyTicket$Roll;", .methodLink RX9 158 yX9_isWithin, .static yX9_isWithin, .initialized RX9, .code yX9_isWithin cX9_isWithin 3 (some .boolean), .fieldLink RX9 43 "LuckyTicket" "imaged" "[Z"] ++ wsX90)
theorem iX9_back_X9 : ∀ w ∈ wsX90, w ∈ uX9_back := fun _ h => List.mem_cons_of_mem _ (List.mem_append_right _ h)
set_option maxRecDepth 20000 in
theorem gX9_back__X9_isWithin_S158 : GoodIn uX9_back (va_wsS RX9 158 yX9_isWithin uX9_isWithin) := goodIn_p _ [5] rfl (by decide +kernel)
set_option maxHeartbeats 4000000 in
set_option maxRecDepth 100000 in
theorem kX9_back (l : Launch) (dC : Nat → ClassId) (dI : Nat → Nat → Nat) (h0 : Nat) (tp : Nat) (sc : Nat) (rd : Nat) (cu : Nat) (im : Nat) (ig : Nat) (sl : Nat) (se : Nat) (su : Nat) (fc : Nat) (cR : ClassId) (cZ : ClassId) (i0 : Nat) (i1 : Nat) (i2 : Nat) (a1 : Int32) : Met l yX9_back uX9_back ({ frames := 1, cells := 0, slots := 0, locals := 22 }) (va_Pc [.ref h0, .int a1] (pw (dC, dI) vwCl [(h0, .inr (7, [.ref tp, .ref sc, .ref rd, .ref cu, .ref im, .ref ig, .ref sl, .ref se, .ref su, .ref fc])), (im, .inl (cR, 3, .inr (.inr (.inr (.inr (sf3 i0 i1 i2)))))), (ig, .inl (cZ, 3, .inl (fun _ => 0)))] [(cR, .object RX2), (cZ, .boolean)])) (vp_Si (fun r => r = b2 a1)) 0 0 (fun _ => False) := by
  refine Met.ofW (cc := cX9_back) (maxL := 2) (ret := (some .int)) (by decide) rfl ?_
  intro p e s m args below meth c s₁ B hml hv
  obtain ⟨rfl, hP, hK, hN⟩ := hv
  have hx := B.exec
  have hb := B.bytes
  have hr := B.returns
  have hts := atoms_spec (ws := uX9_back) B.pre
  have hown : s.vm.findClass RX9 = some m.cls := findClass_of_methodNamed B.named
  have hlocks := B.notSynchronized
  have hl := lv_entry ([.ref h0, .int a1]) (n := 2) (Nat.le_of_ble_eq_true rfl)
  rw [lg_entry_eq]
  generalize (lg_sl ([.ref h0, .int a1]) ++ List.replicate (2 - (lg_sl ([.ref h0, .int a1])).length) Slot.unset).toArray = ls at hl ⊢
  have hl : lv_has ls 2 [(0, .ref h0), (1, .int a1)] := hl
  refine lv_iload_n hx hb dX9_back_0 rfl (lv_at hl 1 rfl) ?_
  refine lv_iconst (v := 0) hx hb dX9_back_1 (by decide) ?_
  refine lv_aload_n hx hb dX9_back_2 rfl (lv_at hl 0 rfl) ?_
  refine va_get (D := (dC, dI)) (ci := 7) (v := .ref im) (C := RX9) (T := TX9) (N := 10) hx hb hts iX9_back_X9 hown hK hP 0 rfl rfl 4 (by decide) (hts (.fieldLink RX9 39 "LuckyTicket" "images" "[LLuckyTicket$Roll;") (List.mem_of_getElem? (i := 1) rfl)) (fun _ h9 => h9) rfl dX9_back_3 ?_
  refine va_alen (v := 3) hx hb hK hP 1 0 rfl rfl (by rfl) dX9_back_6 ?_
  refine lv_iconst (v := 1) hx hb dX9_back_7 (by decide) ?_
  refine lv_isub hx hb dX9_back_8 ?_
  refine lv_topi (fun z_1 ez_1 => ?_)
  obtain rfl : z_1 = 2 := ez_1.trans (by decide)
  refine vp_callSi (W.runS (As := [.int a1, .int 0, .int 2]) (rest := []) ⟨hx, hb, hml, hown, hts⟩ (kX9_isWithin l dC dI a1 0 2) (va_cwS 3 hts gX9_back__X9_isWithin_S158 rfl rfl rfl (by decide +kernel) ⟨lel 1 1 rfl, lel 22 22 rfl⟩) ⟨pn_fb, pn_use⟩ rfl rfl hl.1 rfl (lv_room (Nat.le_of_ble_eq_true rfl)) dX9_back_9 ⟨lel 0 0 rfl, lel 0 0 rfl⟩) (fun r_2 hr_2 => ?_)
  refine lv_if_ne (tgt := 18) hx hb dX9_back_12 (by decide) (fun c_3 => ?_) (fun c_3 => ?_)
  ·
    rcases wi_3 (fun e => c_3 (hr_2.trans e)) with rfl | rfl | rfl
    ·
      refine lv_aload_n hx hb dX9_back_18 rfl (lv_at hl 0 rfl) ?_
      refine va_get (D := (dC, dI)) (ci := 7) (v := .ref ig) (C := RX9) (T := TX9) (N := 10) hx hb hts iX9_back_X9 hown hK hP 0 rfl rfl 5 (by decide) (hts (.fieldLink RX9 43 "LuckyTicket" "imaged" "[Z") (List.mem_of_getElem? (i := 6) rfl)) (fun _ h9 => h9) rfl dX9_back_19 ?_
      refine lv_iload_n hx hb dX9_back_22 rfl (lv_at hl 1 rfl) ?_
      refine va_zald hx hb hK hP 2 1 rfl rfl (vp_in_lit (by decide)) dX9_back_23 ?_
      refine lv_topi (fun z_4 ez_4 => ?_)
      obtain rfl : z_4 = 0 := ez_4
      refine lv_if_ne (tgt := 30) hx hb dX9_back_24 (by decide) (fun c_5 => absurd c_5 (by decide)) (fun _ => ?_)
      refine lv_bipush (v := (-6)) hx hb dX9_back_27 (by decide) ?_
      exact W.iret (v := (-6)) hx hb hr (fun t ht hW => ⟨(-6), rfl, (by decide), ht⟩) t_nil dX9_back_29
    ·
      refine lv_aload_n hx hb dX9_back_18 rfl (lv_at hl 0 rfl) ?_
      refine va_get (D := (dC, dI)) (ci := 7) (v := .ref ig) (C := RX9) (T := TX9) (N := 10) hx hb hts iX9_back_X9 hown hK hP 0 rfl rfl 5 (by decide) (hts (.fieldLink RX9 43 "LuckyTicket" "imaged" "[Z") (List.mem_of_getElem? (i := 6) rfl)) (fun _ h9 => h9) rfl dX9_back_19 ?_
      refine lv_iload_n hx hb dX9_back_22 rfl (lv_at hl 1 rfl) ?_
      refine va_zald hx hb hK hP 2 1 rfl rfl (vp_in_lit (by decide)) dX9_back_23 ?_
      refine lv_topi (fun z_6 ez_6 => ?_)
      obtain rfl : z_6 = 0 := ez_6
      refine lv_if_ne (tgt := 30) hx hb dX9_back_24 (by decide) (fun c_7 => absurd c_7 (by decide)) (fun _ => ?_)
      refine lv_bipush (v := (-6)) hx hb dX9_back_27 (by decide) ?_
      exact W.iret (v := (-6)) hx hb hr (fun t ht hW => ⟨(-6), rfl, (by decide), ht⟩) t_nil dX9_back_29
    ·
      refine lv_aload_n hx hb dX9_back_18 rfl (lv_at hl 0 rfl) ?_
      refine va_get (D := (dC, dI)) (ci := 7) (v := .ref ig) (C := RX9) (T := TX9) (N := 10) hx hb hts iX9_back_X9 hown hK hP 0 rfl rfl 5 (by decide) (hts (.fieldLink RX9 43 "LuckyTicket" "imaged" "[Z") (List.mem_of_getElem? (i := 6) rfl)) (fun _ h9 => h9) rfl dX9_back_19 ?_
      refine lv_iload_n hx hb dX9_back_22 rfl (lv_at hl 1 rfl) ?_
      refine va_zald hx hb hK hP 2 1 rfl rfl (vp_in_lit (by decide)) dX9_back_23 ?_
      refine lv_topi (fun z_8 ez_8 => ?_)
      obtain rfl : z_8 = 0 := ez_8
      refine lv_if_ne (tgt := 30) hx hb dX9_back_24 (by decide) (fun c_9 => absurd c_9 (by decide)) (fun _ => ?_)
      refine lv_bipush (v := (-6)) hx hb dX9_back_27 (by decide) ?_
      exact W.iret (v := (-6)) hx hb hr (fun t ht hW => ⟨(-6), rfl, (by decide), ht⟩) t_nil dX9_back_29
  ·
    refine lv_bipush (v := (-2)) hx hb dX9_back_15 (by decide) ?_
    exact W.iret (v := (-2)) hx hb hr (fun t ht hW => ⟨(-2), rfl, (if_pos (hr_2.symm.trans c_3)).symm, ht⟩) t_nil dX9_back_17
theorem dX10_back_0 : decode cX10_back 0 = .ok (.iload_n 1, 1) := by decide +kernel
theorem dX10_back_1 : decode cX10_back 1 = .ok (.i2l, 1) := by decide +kernel
theorem dX10_back_2 : decode cX10_back 2 = .ok (.lconst 0, 1) := by decide +kernel
theorem dX10_back_3 : decode cX10_back 3 = .ok (.ldc2_w 80, 3) := by decide +kernel
theorem dX10_back_6 : decode cX10_back 6 = .ok (.invokestatic 82, 3) := by decide +kernel
theorem dX10_back_9 : decode cX10_back 9 = .ok (.ifCond .ne 6, 3) := by decide +kernel
theorem dX10_back_12 : decode cX10_back 12 = .ok (.bipush (-2), 2) := by decide +kernel
theorem dX10_back_14 : decode cX10_back 14 = .ok (.ireturn, 1) := by decide +kernel
theorem dX10_back_15 : decode cX10_back 15 = .ok (.aload_n 0, 1) := by decide +kernel
theorem dX10_back_16 : decode cX10_back 16 = .ok (.getfield 16, 3) := by decide +kernel
theorem dX10_back_19 : decode cX10_back 19 = .ok (.iload_n 1, 1) := by decide +kernel
theorem dX10_back_20 : decode cX10_back 20 = .ok (.baload, 1) := by decide +kernel
theorem dX10_back_21 : decode cX10_back 21 = .ok (.ifCond .ne 6, 3) := by decide +kernel
theorem dX10_back_24 : decode cX10_back 24 = .ok (.bipush (-6), 2) := by decide +kernel
theorem dX10_back_26 : decode cX10_back 26 = .ok (.ireturn, 1) := by decide +kernel
def uX10_back : List Cond := .code yX10_back cX10_back 3 (some .int) :: ([.constantLong RX10 80 (2), .methodLink RX10 82 yX10_in, .static yX10_in, .initialized RX10, .code yX10_in cX10_in 6 (some .boolean), .fieldLink RX10 16 "LuckyTicketModel" "hasImage" "[Z"] ++ wsX100)
theorem iX10_back_X10 : ∀ w ∈ wsX100, w ∈ uX10_back := fun _ h => List.mem_cons_of_mem _ (List.mem_append_right _ h)
set_option maxRecDepth 20000 in
theorem gX10_back__X10_in_S82 : GoodIn uX10_back (va_wsS RX10 82 yX10_in uX10_in) := goodIn_p _ [5] rfl (by decide +kernel)
set_option maxHeartbeats 4000000 in
set_option maxRecDepth 100000 in
theorem kX10_back (l : Launch) (dC : Nat → ClassId) (dI : Nat → Nat → Nat) (h0 : Nat) (m_world : Nat) (m_images : Nat) (m_hasImage : Nat) (m_luck : Nat) (m_tape : Nat) (m_five : Nat) (m_fresh : Nat) (m_waits : Nat) (m_figures : Nat) (m_pile : Nat) (m_times : Nat) (m_far : Nat) (m_queue : Nat) (m_months : Nat) (m_ways : Nat) (m_waysOn : Nat) (m_many : Nat) (m_width : Nat) (m_numbers : Nat) (m_moving : Nat) (cZ : ClassId) (a1 : Int32) : Met l yX10_back uX10_back ({ frames := 1, cells := 0, slots := 0, locals := 25 }) (va_Pc [.ref h0, .int a1] (pw (dC, dI) vwCl [(h0, .inr (8, [.int 0, .ref m_world, .ref m_images, .ref m_hasImage, .ref m_luck, .ref m_tape, .int 0, .ref m_five, .int 0, .int 0, .int 0, .int 0, .int 0, .int 0, .int (-1), .ref m_fresh, .ref m_waits, .int 0, .int 0, .int 0, .ref m_figures, .ref m_pile, .long 0, .ref m_times, .ref m_far, .ref m_queue, .ref m_months, .ref m_ways, .ref m_waysOn, .ref m_many, .ref m_width, .ref m_numbers, .ref m_moving])), (m_hasImage, .inl (cZ, 3, .inl (fun _ => 0)))] [(cZ, .boolean)])) (vp_Si (fun r => r = b2 a1)) 0 0 (fun _ => False) := by
  refine Met.ofW (cc := cX10_back) (maxL := 3) (ret := (some .int)) (by decide) rfl ?_
  intro p e s m args below meth c s₁ B hml hv
  obtain ⟨rfl, hP, hK, hN⟩ := hv
  have hx := B.exec
  have hb := B.bytes
  have hr := B.returns
  have hts := atoms_spec (ws := uX10_back) B.pre
  have hown : s.vm.findClass RX10 = some m.cls := findClass_of_methodNamed B.named
  have hlocks := B.notSynchronized
  have hl := lv_entry ([.ref h0, .int a1]) (n := 3) (Nat.le_of_ble_eq_true rfl)
  rw [lg_entry_eq]
  generalize (lg_sl ([.ref h0, .int a1]) ++ List.replicate (3 - (lg_sl ([.ref h0, .int a1])).length) Slot.unset).toArray = ls at hl ⊢
  have hl : lv_has ls 3 [(0, .ref h0), (1, .int a1)] := hl
  refine lv_iload_n hx hb dX10_back_0 rfl (lv_at hl 1 rfl) ?_
  refine lv_i2l (v := a1.toInt64) hx hb dX10_back_1 rfl ?_
  refine lv_lconst (v := 0) hx hb dX10_back_2 (by decide) ?_
  refine lv_ldc2 (v := 2) hx hb hown (hts (.constantLong RX10 80 (2)) (List.mem_of_getElem? (i := 1) rfl)) dX10_back_3 ?_
  refine vp_callSi (W.runS (As := [.long a1.toInt64, .long 0, .long 2]) (rest := []) ⟨hx, hb, hml, hown, hts⟩ (kX10_in l dC dI a1.toInt64 0 2) (va_cwS 3 hts gX10_back__X10_in_S82 rfl rfl rfl (by decide +kernel) ⟨lel 1 1 rfl, lel 25 25 rfl⟩) ⟨pn_fb, pn_use⟩ rfl rfl hl.1 rfl (lv_room (Nat.le_of_ble_eq_true rfl)) dX10_back_6 ⟨lel 0 0 rfl, lel 0 0 rfl⟩) (fun r_1 hr_1 => ?_)
  refine lv_if_ne (tgt := 15) hx hb dX10_back_9 (by decide) (fun c_2 => ?_) (fun c_2 => ?_)
  ·
    rcases wi_3 (fun e => c_2 (hr_1.trans ((inr_wi a1 0 2).trans e))) with rfl | rfl | rfl
    ·
      refine lv_aload_n hx hb dX10_back_15 rfl (lv_at hl 0 rfl) ?_
      refine va_get (D := (dC, dI)) (ci := 8) (v := .ref m_hasImage) (C := RX10) (T := TX10) (N := 33) hx hb hts iX10_back_X10 hown hK hP 0 rfl rfl 3 (by decide) (hts (.fieldLink RX10 16 "LuckyTicketModel" "hasImage" "[Z") (List.mem_of_getElem? (i := 6) rfl)) (fun _ h9 => h9) rfl dX10_back_16 ?_
      refine lv_iload_n hx hb dX10_back_19 rfl (lv_at hl 1 rfl) ?_
      refine va_zald hx hb hK hP 1 0 rfl rfl (vp_in_lit (by decide)) dX10_back_20 ?_
      refine lv_topi (fun z_3 ez_3 => ?_)
      obtain rfl : z_3 = 0 := ez_3
      refine lv_if_ne (tgt := 27) hx hb dX10_back_21 (by decide) (fun c_4 => absurd c_4 (by decide)) (fun _ => ?_)
      refine lv_bipush (v := (-6)) hx hb dX10_back_24 (by decide) ?_
      exact W.iret (v := (-6)) hx hb hr (fun t ht hW => ⟨(-6), rfl, (by decide), ht⟩) t_nil dX10_back_26
    ·
      refine lv_aload_n hx hb dX10_back_15 rfl (lv_at hl 0 rfl) ?_
      refine va_get (D := (dC, dI)) (ci := 8) (v := .ref m_hasImage) (C := RX10) (T := TX10) (N := 33) hx hb hts iX10_back_X10 hown hK hP 0 rfl rfl 3 (by decide) (hts (.fieldLink RX10 16 "LuckyTicketModel" "hasImage" "[Z") (List.mem_of_getElem? (i := 6) rfl)) (fun _ h9 => h9) rfl dX10_back_16 ?_
      refine lv_iload_n hx hb dX10_back_19 rfl (lv_at hl 1 rfl) ?_
      refine va_zald hx hb hK hP 1 0 rfl rfl (vp_in_lit (by decide)) dX10_back_20 ?_
      refine lv_topi (fun z_5 ez_5 => ?_)
      obtain rfl : z_5 = 0 := ez_5
      refine lv_if_ne (tgt := 27) hx hb dX10_back_21 (by decide) (fun c_6 => absurd c_6 (by decide)) (fun _ => ?_)
      refine lv_bipush (v := (-6)) hx hb dX10_back_24 (by decide) ?_
      exact W.iret (v := (-6)) hx hb hr (fun t ht hW => ⟨(-6), rfl, (by decide), ht⟩) t_nil dX10_back_26
    ·
      refine lv_aload_n hx hb dX10_back_15 rfl (lv_at hl 0 rfl) ?_
      refine va_get (D := (dC, dI)) (ci := 8) (v := .ref m_hasImage) (C := RX10) (T := TX10) (N := 33) hx hb hts iX10_back_X10 hown hK hP 0 rfl rfl 3 (by decide) (hts (.fieldLink RX10 16 "LuckyTicketModel" "hasImage" "[Z") (List.mem_of_getElem? (i := 6) rfl)) (fun _ h9 => h9) rfl dX10_back_16 ?_
      refine lv_iload_n hx hb dX10_back_19 rfl (lv_at hl 1 rfl) ?_
      refine va_zald hx hb hK hP 1 0 rfl rfl (vp_in_lit (by decide)) dX10_back_20 ?_
      refine lv_topi (fun z_7 ez_7 => ?_)
      obtain rfl : z_7 = 0 := ez_7
      refine lv_if_ne (tgt := 27) hx hb dX10_back_21 (by decide) (fun c_8 => absurd c_8 (by decide)) (fun _ => ?_)
      refine lv_bipush (v := (-6)) hx hb dX10_back_24 (by decide) ?_
      exact W.iret (v := (-6)) hx hb hr (fun t ht hW => ⟨(-6), rfl, (by decide), ht⟩) t_nil dX10_back_26
  ·
    refine lv_bipush (v := (-2)) hx hb dX10_back_12 (by decide) ?_
    exact W.iret (v := (-2)) hx hb hr (fun t ht hW => ⟨(-2), rfl, (if_pos ((inr_wi a1 0 2).symm.trans (hr_1.symm.trans c_2))).symm, ht⟩) t_nil dX10_back_14
theorem dX3_stands_0 : decode cX3_stands 0 = .ok (.aload_n 0, 1) := by decide +kernel
theorem dX3_stands_1 : decode cX3_stands 1 = .ok (.getfield 9, 3) := by decide +kernel
theorem dX3_stands_4 : decode cX3_stands 4 = .ok (.iconst (-1), 1) := by decide +kernel
theorem dX3_stands_5 : decode cX3_stands 5 = .ok (.if_icmp .eq 7, 3) := by decide +kernel
theorem dX3_stands_12 : decode cX3_stands 12 = .ok (.iconst 0, 1) := by decide +kernel
theorem dX3_stands_13 : decode cX3_stands 13 = .ok (.ireturn, 1) := by decide +kernel
def uX3_stands : List Cond := .code yX3_stands cX3_stands 1 (some .boolean) :: ([.fieldLink RX3 9 "LuckyTicket$Row" "width" "I"] ++ wsX30)
theorem iX3_stands_X3 : ∀ w ∈ wsX30, w ∈ uX3_stands := fun _ h => List.mem_cons_of_mem _ (List.mem_append_right _ h)
set_option maxHeartbeats 4000000 in
set_option maxRecDepth 100000 in
theorem kX3_stands (l : Launch) (dC : Nat → ClassId) (dI : Nat → Nat → Nat) (q0 : Nat) (nn : Nat) : Met l yX3_stands uX3_stands ({ frames := 0, cells := 0, slots := 0, locals := 0 }) (va_Pc [.ref q0] (pw (dC, dI) vwCl [(q0, .inr (2, [.int (-1), .int 0, .ref nn]))] [])) (vp_Si (fun r => r = 0)) 0 0 (fun _ => False) := by
  refine Met.ofW (cc := cX3_stands) (maxL := 1) (ret := (some .boolean)) (by decide) rfl ?_
  intro p e s m args below meth c s₁ B hml hv
  obtain ⟨rfl, hP, hK, hN⟩ := hv
  have hx := B.exec
  have hb := B.bytes
  have hr := B.returns
  have hts := atoms_spec (ws := uX3_stands) B.pre
  have hown : s.vm.findClass RX3 = some m.cls := findClass_of_methodNamed B.named
  have hlocks := B.notSynchronized
  have hl := lv_entry ([.ref q0]) (n := 1) (Nat.le_of_ble_eq_true rfl)
  rw [lg_entry_eq]
  generalize (lg_sl ([.ref q0]) ++ List.replicate (1 - (lg_sl ([.ref q0])).length) Slot.unset).toArray = ls at hl ⊢
  have hl : lv_has ls 1 [(0, .ref q0)] := hl
  refine lv_aload_n hx hb dX3_stands_0 rfl (lv_at hl 0 rfl) ?_
  refine va_get (D := (dC, dI)) (ci := 2) (v := .int (-1)) (C := RX3) (T := TX3) (N := 3) hx hb hts iX3_stands_X3 hown hK hP 0 rfl rfl 0 (by decide) (hts (.fieldLink RX3 9 "LuckyTicket$Row" "width" "I") (List.mem_of_getElem? (i := 1) rfl)) (fun _ h9 => h9) rfl dX3_stands_1 ?_
  refine lv_iconst (v := (-1)) hx hb dX3_stands_4 (by decide) ?_
  refine lv_icmp_eq (tgt := 12) hx hb dX3_stands_5 (by decide) (fun _ => ?_) (fun c_1 => absurd c_1 (by decide))
  refine lv_iconst (v := 0) hx hb dX3_stands_12 (by decide) ?_
  exact W.zret (v := 0) hx hb hr rfl (fun t ht hW => ⟨0, rfl, rfl, ht⟩) t_nil dX3_stands_13
theorem dX9_write_0 : decode cX9_write 0 = .ok (.aload_n 0, 1) := by decide +kernel
theorem dX9_write_1 : decode cX9_write 1 = .ok (.iload_n 1, 1) := by decide +kernel
theorem dX9_write_2 : decode cX9_write 2 = .ok (.invokevirtual 206, 3) := by decide +kernel
theorem dX9_write_5 : decode cX9_write 5 = .ok (.ifCond .ne 6, 3) := by decide +kernel
theorem dX9_write_8 : decode cX9_write 8 = .ok (.bipush (-2), 2) := by decide +kernel
theorem dX9_write_10 : decode cX9_write 10 = .ok (.ireturn, 1) := by decide +kernel
theorem dX9_write_11 : decode cX9_write 11 = .ok (.aload_n 0, 1) := by decide +kernel
theorem dX9_write_12 : decode cX9_write 12 = .ok (.getfield 50, 3) := by decide +kernel
theorem dX9_write_15 : decode cX9_write 15 = .ok (.iload_n 1, 1) := by decide +kernel
theorem dX9_write_16 : decode cX9_write 16 = .ok (.aaload, 1) := by decide +kernel
theorem dX9_write_17 : decode cX9_write 17 = .ok (.astore 5, 2) := by decide +kernel
theorem dX9_write_19 : decode cX9_write 19 = .ok (.aload 5, 2) := by decide +kernel
theorem dX9_write_21 : decode cX9_write 21 = .ok (.invokevirtual 270, 3) := by decide +kernel
theorem dX9_write_24 : decode cX9_write 24 = .ok (.ifCond .ne 6, 3) := by decide +kernel
theorem dX9_write_27 : decode cX9_write 27 = .ok (.bipush (-6), 2) := by decide +kernel
theorem dX9_write_29 : decode cX9_write 29 = .ok (.ireturn, 1) := by decide +kernel
def uX9_write : List Cond := .code yX9_write cX9_write 6 (some .int) :: ([.methodLink RX9 206 yX9_hasSlot, .instanceMethod yX9_hasSlot, .selects RX9 yX9_hasSlot yX9_hasSlot, .initialized RX9, .code yX9_hasSlot cX9_hasSlot 2 (some .boolean), .fieldLink RX9 50 "LuckyTicket" "slots" "[LLuckyTicket$Row;", .methodLink RX9 158 yX9_isWithin, .static yX9_isWithin, .code yX9_isWithin cX9_isWithin 3 (some .boolean), .methodLink RX9 270 yX3_stands, .instanceMethod yX3_stands, .selects RX3 yX3_stands yX3_stands, .initialized RX3, .code yX3_stands cX3_stands 1 (some .boolean), .fieldLink RX3 9 "LuckyTicket$Row" "width" "I"] ++ wsX90 ++ wsX30)
theorem iX9_write_X9 : ∀ w ∈ wsX90, w ∈ uX9_write := fun _ h => List.mem_cons_of_mem _ (List.mem_append_left _ (List.mem_append_right _ h))
theorem iX9_write_X3 : ∀ w ∈ wsX30, w ∈ uX9_write := fun _ h => List.mem_cons_of_mem _ (List.mem_append_right _ h)
set_option maxRecDepth 20000 in
theorem gX9_write__X9_hasSlot_V206 : GoodIn uX9_write (wsV RX9 206 RX9 yX9_hasSlot uX9_hasSlot) := goodIn_p _ [5, 9] rfl (by decide +kernel)
set_option maxRecDepth 20000 in
theorem gX9_write__X3_stands_V270 : GoodIn uX9_write (wsV RX9 270 RX3 yX3_stands uX3_stands) := goodIn_p _ [14] rfl (by decide +kernel)
set_option maxHeartbeats 4000000 in
set_option maxRecDepth 100000 in
theorem kX9_write (l : Launch) (dC : Nat → ClassId) (dI : Nat → Nat → Nat) (h0 : Nat) (tp : Nat) (sc : Nat) (rd : Nat) (cu : Nat) (im : Nat) (ig : Nat) (sl : Nat) (se : Nat) (su : Nat) (fc : Nat) (cS : ClassId) (s0 : Nat) (s1 : Nat) (s2 : Nat) (s3 : Nat) (n0 : Nat) (n1 : Nat) (n2 : Nat) (n3 : Nat) (a1 : Int32) (a2 : Int32) (v3 : Int64) : Met l yX9_write uX9_write ({ frames := 2, cells := 0, slots := 0, locals := 43 }) (va_Pc [.ref h0, .int a1, .int a2, .long v3] (pw (dC, dI) vwCl [(h0, .inr (7, [.ref tp, .ref sc, .ref rd, .ref cu, .ref im, .ref ig, .ref sl, .ref se, .ref su, .ref fc])), (sl, .inl (cS, 4, .inr (.inr (.inr (.inr (sf4 s0 s1 s2 s3)))))), (s0, .inr (2, [.int (-1), .int 0, .ref n0])), (s1, .inr (2, [.int (-1), .int 0, .ref n1])), (s2, .inr (2, [.int (-1), .int 0, .ref n2])), (s3, .inr (2, [.int (-1), .int 0, .ref n3]))] [(cS, .object RX3)])) (vp_Si (fun r => r = w2 a1)) 0 0 (fun _ => False) := by
  refine Met.ofW (cc := cX9_write) (maxL := 6) (ret := (some .int)) (by decide) rfl ?_
  intro p e s m args below meth c s₁ B hml hv
  obtain ⟨rfl, hP, hK, hN⟩ := hv
  have hx := B.exec
  have hb := B.bytes
  have hr := B.returns
  have hts := atoms_spec (ws := uX9_write) B.pre
  have hown : s.vm.findClass RX9 = some m.cls := findClass_of_methodNamed B.named
  have hlocks := B.notSynchronized
  have hl := lv_entry ([.ref h0, .int a1, .int a2, .long v3]) (n := 6) (Nat.le_of_ble_eq_true rfl)
  rw [lg_entry_eq]
  generalize (lg_sl ([.ref h0, .int a1, .int a2, .long v3]) ++ List.replicate (6 - (lg_sl ([.ref h0, .int a1, .int a2, .long v3])).length) Slot.unset).toArray = ls at hl ⊢
  have hl : lv_has ls 6 [(0, .ref h0), (1, .int a1), (2, .int a2), (3, .long v3)] := hl
  refine lv_aload_n hx hb dX9_write_0 rfl (lv_at hl 0 rfl) ?_
  refine lv_iload_n hx hb dX9_write_1 rfl (lv_at hl 1 rfl) ?_
  refine vp_callSi (W.runV (As := [.int a1]) (rest := []) ⟨hx, hb, hml, hown, hts⟩ (kX9_hasSlot l dC dI h0 tp sc rd cu im ig sl se su fc cS (sf4 s0 s1 s2 s3) a1) (cwV 1 hts gX9_write__X9_hasSlot_V206 rfl rfl rfl (by decide +kernel) ⟨lel 2 2 rfl, lel 43 43 rfl⟩) ⟨pw_fb, va_recv hK hP (ci := 7) (q0 := 0) rfl rfl, (pw_use hP hK hN [0, 1] rfl [0] rfl)⟩ rfl rfl hl.1 rfl (lv_room (Nat.le_of_ble_eq_true rfl)) dX9_write_2 ⟨lel 0 0 rfl, lel 0 0 rfl⟩) (fun r_1 hr_1 => ?_)
  refine lv_if_ne (tgt := 11) hx hb dX9_write_5 (by decide) (fun c_2 => ?_) (fun c_2 => ?_)
  ·
    rcases wi_4 (fun e => c_2 (hr_1.trans e)) with rfl | rfl | rfl | rfl
    ·
      refine lv_aload_n hx hb dX9_write_11 rfl (lv_at hl 0 rfl) ?_
      refine va_get (D := (dC, dI)) (ci := 7) (v := .ref sl) (C := RX9) (T := TX9) (N := 10) hx hb hts iX9_write_X9 hown hK hP 0 rfl rfl 6 (by decide) (hts (.fieldLink RX9 50 "LuckyTicket" "slots" "[LLuckyTicket$Row;") (List.mem_of_getElem? (i := 6) rfl)) (fun _ h9 => h9) rfl dX9_write_12 ?_
      refine lv_iload_n hx hb dX9_write_15 rfl (lv_at hl 1 rfl) ?_
      refine va_aldq hx hb hK hP 1 0 rfl rfl (vp_in_lit (by decide)) dX9_write_16 ?_
      refine W.eq (g2 := F0 m 17 ls (.ref s0 :: [])) (congrArg (fun v => F0 m 17 ls (va_rf v :: [])) (sf4_0 s0 s1 s2 s3)) ?_
      refine lv_astore (lv' := [(5, .ref s0), (0, .ref h0), (1, .int 0), (2, .int a2), (3, .long v3)]) hx hb dX9_write_17 hl (by decide) rfl (fun ls hl => ?_)
      refine lv_aload hx hb dX9_write_19 (lv_at hl 0 rfl) ?_
      refine vp_callSi (W.runV (As := []) (rest := []) ⟨hx, hb, hml, hown, hts⟩ (kX3_stands l dC dI s0 n0) (cwV 0 hts gX9_write__X3_stands_V270 rfl rfl rfl (by decide +kernel) ⟨lel 1 2 rfl, lel 20 43 rfl⟩) ⟨pw_fb, va_recv hK hP (ci := 2) (q0 := 2) rfl rfl, (pw_use hP hK hN [2] rfl [] rfl)⟩ rfl rfl hl.1 rfl (lv_room (Nat.le_of_ble_eq_true rfl)) dX9_write_21 ⟨lel 0 0 rfl, lel 0 0 rfl⟩) (fun r_3 hr_3 => ?_)
      obtain rfl : r_3 = 0 := hr_3
      refine lv_if_ne (tgt := 30) hx hb dX9_write_24 (by decide) (fun c_4 => absurd c_4 (by decide)) (fun _ => ?_)
      refine lv_bipush (v := (-6)) hx hb dX9_write_27 (by decide) ?_
      exact W.iret (v := (-6)) hx hb hr (fun t ht hW => ⟨(-6), rfl, (by decide), ht⟩) t_nil dX9_write_29
    ·
      refine lv_aload_n hx hb dX9_write_11 rfl (lv_at hl 0 rfl) ?_
      refine va_get (D := (dC, dI)) (ci := 7) (v := .ref sl) (C := RX9) (T := TX9) (N := 10) hx hb hts iX9_write_X9 hown hK hP 0 rfl rfl 6 (by decide) (hts (.fieldLink RX9 50 "LuckyTicket" "slots" "[LLuckyTicket$Row;") (List.mem_of_getElem? (i := 6) rfl)) (fun _ h9 => h9) rfl dX9_write_12 ?_
      refine lv_iload_n hx hb dX9_write_15 rfl (lv_at hl 1 rfl) ?_
      refine va_aldq hx hb hK hP 1 0 rfl rfl (vp_in_lit (by decide)) dX9_write_16 ?_
      refine W.eq (g2 := F0 m 17 ls (.ref s1 :: [])) (congrArg (fun v => F0 m 17 ls (va_rf v :: [])) (sf4_1 s0 s1 s2 s3)) ?_
      refine lv_astore (lv' := [(5, .ref s1), (0, .ref h0), (1, .int 1), (2, .int a2), (3, .long v3)]) hx hb dX9_write_17 hl (by decide) rfl (fun ls hl => ?_)
      refine lv_aload hx hb dX9_write_19 (lv_at hl 0 rfl) ?_
      refine vp_callSi (W.runV (As := []) (rest := []) ⟨hx, hb, hml, hown, hts⟩ (kX3_stands l dC dI s1 n1) (cwV 0 hts gX9_write__X3_stands_V270 rfl rfl rfl (by decide +kernel) ⟨lel 1 2 rfl, lel 20 43 rfl⟩) ⟨pw_fb, va_recv hK hP (ci := 2) (q0 := 3) rfl rfl, (pw_use hP hK hN [3] rfl [] rfl)⟩ rfl rfl hl.1 rfl (lv_room (Nat.le_of_ble_eq_true rfl)) dX9_write_21 ⟨lel 0 0 rfl, lel 0 0 rfl⟩) (fun r_5 hr_5 => ?_)
      obtain rfl : r_5 = 0 := hr_5
      refine lv_if_ne (tgt := 30) hx hb dX9_write_24 (by decide) (fun c_6 => absurd c_6 (by decide)) (fun _ => ?_)
      refine lv_bipush (v := (-6)) hx hb dX9_write_27 (by decide) ?_
      exact W.iret (v := (-6)) hx hb hr (fun t ht hW => ⟨(-6), rfl, (by decide), ht⟩) t_nil dX9_write_29
    ·
      refine lv_aload_n hx hb dX9_write_11 rfl (lv_at hl 0 rfl) ?_
      refine va_get (D := (dC, dI)) (ci := 7) (v := .ref sl) (C := RX9) (T := TX9) (N := 10) hx hb hts iX9_write_X9 hown hK hP 0 rfl rfl 6 (by decide) (hts (.fieldLink RX9 50 "LuckyTicket" "slots" "[LLuckyTicket$Row;") (List.mem_of_getElem? (i := 6) rfl)) (fun _ h9 => h9) rfl dX9_write_12 ?_
      refine lv_iload_n hx hb dX9_write_15 rfl (lv_at hl 1 rfl) ?_
      refine va_aldq hx hb hK hP 1 0 rfl rfl (vp_in_lit (by decide)) dX9_write_16 ?_
      refine W.eq (g2 := F0 m 17 ls (.ref s2 :: [])) (congrArg (fun v => F0 m 17 ls (va_rf v :: [])) (sf4_2 s0 s1 s2 s3)) ?_
      refine lv_astore (lv' := [(5, .ref s2), (0, .ref h0), (1, .int 2), (2, .int a2), (3, .long v3)]) hx hb dX9_write_17 hl (by decide) rfl (fun ls hl => ?_)
      refine lv_aload hx hb dX9_write_19 (lv_at hl 0 rfl) ?_
      refine vp_callSi (W.runV (As := []) (rest := []) ⟨hx, hb, hml, hown, hts⟩ (kX3_stands l dC dI s2 n2) (cwV 0 hts gX9_write__X3_stands_V270 rfl rfl rfl (by decide +kernel) ⟨lel 1 2 rfl, lel 20 43 rfl⟩) ⟨pw_fb, va_recv hK hP (ci := 2) (q0 := 4) rfl rfl, (pw_use hP hK hN [4] rfl [] rfl)⟩ rfl rfl hl.1 rfl (lv_room (Nat.le_of_ble_eq_true rfl)) dX9_write_21 ⟨lel 0 0 rfl, lel 0 0 rfl⟩) (fun r_7 hr_7 => ?_)
      obtain rfl : r_7 = 0 := hr_7
      refine lv_if_ne (tgt := 30) hx hb dX9_write_24 (by decide) (fun c_8 => absurd c_8 (by decide)) (fun _ => ?_)
      refine lv_bipush (v := (-6)) hx hb dX9_write_27 (by decide) ?_
      exact W.iret (v := (-6)) hx hb hr (fun t ht hW => ⟨(-6), rfl, (by decide), ht⟩) t_nil dX9_write_29
    ·
      refine lv_aload_n hx hb dX9_write_11 rfl (lv_at hl 0 rfl) ?_
      refine va_get (D := (dC, dI)) (ci := 7) (v := .ref sl) (C := RX9) (T := TX9) (N := 10) hx hb hts iX9_write_X9 hown hK hP 0 rfl rfl 6 (by decide) (hts (.fieldLink RX9 50 "LuckyTicket" "slots" "[LLuckyTicket$Row;") (List.mem_of_getElem? (i := 6) rfl)) (fun _ h9 => h9) rfl dX9_write_12 ?_
      refine lv_iload_n hx hb dX9_write_15 rfl (lv_at hl 1 rfl) ?_
      refine va_aldq hx hb hK hP 1 0 rfl rfl (vp_in_lit (by decide)) dX9_write_16 ?_
      refine W.eq (g2 := F0 m 17 ls (.ref s3 :: [])) (congrArg (fun v => F0 m 17 ls (va_rf v :: [])) (sf4_3 s0 s1 s2 s3)) ?_
      refine lv_astore (lv' := [(5, .ref s3), (0, .ref h0), (1, .int 3), (2, .int a2), (3, .long v3)]) hx hb dX9_write_17 hl (by decide) rfl (fun ls hl => ?_)
      refine lv_aload hx hb dX9_write_19 (lv_at hl 0 rfl) ?_
      refine vp_callSi (W.runV (As := []) (rest := []) ⟨hx, hb, hml, hown, hts⟩ (kX3_stands l dC dI s3 n3) (cwV 0 hts gX9_write__X3_stands_V270 rfl rfl rfl (by decide +kernel) ⟨lel 1 2 rfl, lel 20 43 rfl⟩) ⟨pw_fb, va_recv hK hP (ci := 2) (q0 := 5) rfl rfl, (pw_use hP hK hN [5] rfl [] rfl)⟩ rfl rfl hl.1 rfl (lv_room (Nat.le_of_ble_eq_true rfl)) dX9_write_21 ⟨lel 0 0 rfl, lel 0 0 rfl⟩) (fun r_9 hr_9 => ?_)
      obtain rfl : r_9 = 0 := hr_9
      refine lv_if_ne (tgt := 30) hx hb dX9_write_24 (by decide) (fun c_10 => absurd c_10 (by decide)) (fun _ => ?_)
      refine lv_bipush (v := (-6)) hx hb dX9_write_27 (by decide) ?_
      exact W.iret (v := (-6)) hx hb hr (fun t ht hW => ⟨(-6), rfl, (by decide), ht⟩) t_nil dX9_write_29
  ·
    refine lv_bipush (v := (-2)) hx hb dX9_write_8 (by decide) ?_
    exact W.iret (v := (-2)) hx hb hr (fun t ht hW => ⟨(-2), rfl, (if_pos (hr_1.symm.trans c_2)).symm, ht⟩) t_nil dX9_write_10
theorem dX10_write_0 : decode cX10_write 0 = .ok (.iload_n 1, 1) := by decide +kernel
theorem dX10_write_1 : decode cX10_write 1 = .ok (.invokestatic 369, 3) := by decide +kernel
theorem dX10_write_4 : decode cX10_write 4 = .ok (.ifCond .ne 6, 3) := by decide +kernel
theorem dX10_write_7 : decode cX10_write 7 = .ok (.bipush (-2), 2) := by decide +kernel
theorem dX10_write_9 : decode cX10_write 9 = .ok (.ireturn, 1) := by decide +kernel
theorem dX10_write_10 : decode cX10_write 10 = .ok (.aload_n 0, 1) := by decide +kernel
theorem dX10_write_11 : decode cX10_write 11 = .ok (.getfield 65, 3) := by decide +kernel
theorem dX10_write_14 : decode cX10_write 14 = .ok (.iload_n 1, 1) := by decide +kernel
theorem dX10_write_15 : decode cX10_write 15 = .ok (.iaload, 1) := by decide +kernel
theorem dX10_write_16 : decode cX10_write 16 = .ok (.iconst (-1), 1) := by decide +kernel
theorem dX10_write_17 : decode cX10_write 17 = .ok (.if_icmp .ne 6, 3) := by decide +kernel
theorem dX10_write_20 : decode cX10_write 20 = .ok (.bipush (-6), 2) := by decide +kernel
theorem dX10_write_22 : decode cX10_write 22 = .ok (.ireturn, 1) := by decide +kernel
def uX10_write : List Cond := .code yX10_write cX10_write 5 (some .int) :: ([.methodLink RX10 369 yX10_isSlot, .static yX10_isSlot, .initialized RX10, .code yX10_isSlot cX10_isSlot 1 (some .boolean), .constantLong RX10 375 (3), .methodLink RX10 82 yX10_in, .static yX10_in, .code yX10_in cX10_in 6 (some .boolean), .fieldLink RX10 65 "LuckyTicketModel" "many" "[I"] ++ wsX100)
theorem iX10_write_X10 : ∀ w ∈ wsX100, w ∈ uX10_write := fun _ h => List.mem_cons_of_mem _ (List.mem_append_right _ h)
set_option maxRecDepth 20000 in
theorem gX10_write__X10_isSlot_S369 : GoodIn uX10_write (va_wsS RX10 369 yX10_isSlot uX10_isSlot) := goodIn_p _ [4, 8] rfl (by decide +kernel)
set_option maxHeartbeats 4000000 in
set_option maxRecDepth 100000 in
theorem kX10_write (l : Launch) (dC : Nat → ClassId) (dI : Nat → Nat → Nat) (h0 : Nat) (m_world : Nat) (m_images : Nat) (m_hasImage : Nat) (m_luck : Nat) (m_tape : Nat) (m_five : Nat) (m_fresh : Nat) (m_waits : Nat) (m_figures : Nat) (m_pile : Nat) (m_times : Nat) (m_far : Nat) (m_queue : Nat) (m_months : Nat) (m_ways : Nat) (m_waysOn : Nat) (m_many : Nat) (m_width : Nat) (m_numbers : Nat) (m_moving : Nat) (cI : ClassId) (a1 : Int32) (a2 : Int32) (v3 : Int64) : Met l yX10_write uX10_write ({ frames := 2, cells := 0, slots := 0, locals := 45 }) (va_Pc [.ref h0, .int a1, .int a2, .long v3] (pw (dC, dI) vwCl [(h0, .inr (8, [.int 0, .ref m_world, .ref m_images, .ref m_hasImage, .ref m_luck, .ref m_tape, .int 0, .ref m_five, .int 0, .int 0, .int 0, .int 0, .int 0, .int 0, .int (-1), .ref m_fresh, .ref m_waits, .int 0, .int 0, .int 0, .ref m_figures, .ref m_pile, .long 0, .ref m_times, .ref m_far, .ref m_queue, .ref m_months, .ref m_ways, .ref m_waysOn, .ref m_many, .ref m_width, .ref m_numbers, .ref m_moving])), (m_many, .inl (cI, 4, .inl manyF))] [(cI, .int)])) (vp_Si (fun r => r = w2 a1)) 0 0 (fun _ => False) := by
  refine Met.ofW (cc := cX10_write) (maxL := 5) (ret := (some .int)) (by decide) rfl ?_
  intro p e s m args below meth c s₁ B hml hv
  obtain ⟨rfl, hP, hK, hN⟩ := hv
  have hx := B.exec
  have hb := B.bytes
  have hr := B.returns
  have hts := atoms_spec (ws := uX10_write) B.pre
  have hown : s.vm.findClass RX10 = some m.cls := findClass_of_methodNamed B.named
  have hlocks := B.notSynchronized
  have hl := lv_entry ([.ref h0, .int a1, .int a2, .long v3]) (n := 5) (Nat.le_of_ble_eq_true rfl)
  rw [lg_entry_eq]
  generalize (lg_sl ([.ref h0, .int a1, .int a2, .long v3]) ++ List.replicate (5 - (lg_sl ([.ref h0, .int a1, .int a2, .long v3])).length) Slot.unset).toArray = ls at hl ⊢
  have hl : lv_has ls 5 [(0, .ref h0), (1, .int a1), (2, .int a2), (3, .long v3)] := hl
  refine lv_iload_n hx hb dX10_write_0 rfl (lv_at hl 1 rfl) ?_
  refine vp_callSi (W.runS (As := [.int a1]) (rest := []) ⟨hx, hb, hml, hown, hts⟩ (kX10_isSlot l dC dI a1) (va_cwS 1 hts gX10_write__X10_isSlot_S369 rfl rfl rfl (by decide +kernel) ⟨lel 2 2 rfl, lel 45 45 rfl⟩) ⟨pn_fb, pn_use⟩ rfl rfl hl.1 rfl (lv_room (Nat.le_of_ble_eq_true rfl)) dX10_write_1 ⟨lel 0 0 rfl, lel 0 0 rfl⟩) (fun r_1 hr_1 => ?_)
  refine lv_if_ne (tgt := 10) hx hb dX10_write_4 (by decide) (fun c_2 => ?_) (fun c_2 => ?_)
  ·
    rcases wi_4 (fun e => c_2 (hr_1.trans e)) with rfl | rfl | rfl | rfl
    ·
      refine lv_aload_n hx hb dX10_write_10 rfl (lv_at hl 0 rfl) ?_
      refine va_get (D := (dC, dI)) (ci := 8) (v := .ref m_many) (C := RX10) (T := TX10) (N := 33) hx hb hts iX10_write_X10 hown hK hP 0 rfl rfl 29 (by decide) (hts (.fieldLink RX10 65 "LuckyTicketModel" "many" "[I") (List.mem_of_getElem? (i := 9) rfl)) (fun _ h9 => h9) rfl dX10_write_11 ?_
      refine lv_iload_n hx hb dX10_write_14 rfl (lv_at hl 1 rfl) ?_
      refine va_iald hx hb hK hP 1 0 rfl rfl (vp_in_lit (by decide)) dX10_write_15 ?_
      refine lv_topi (fun z_3 ez_3 => ?_)
      obtain rfl : z_3 = (-1) := ez_3.trans (by decide)
      refine lv_iconst (v := (-1)) hx hb dX10_write_16 (by decide) ?_
      refine lv_icmp_ne (tgt := 23) hx hb dX10_write_17 (by decide) (fun c_4 => absurd c_4 (by decide)) (fun _ => ?_)
      refine lv_bipush (v := (-6)) hx hb dX10_write_20 (by decide) ?_
      exact W.iret (v := (-6)) hx hb hr (fun t ht hW => ⟨(-6), rfl, (by decide), ht⟩) t_nil dX10_write_22
    ·
      refine lv_aload_n hx hb dX10_write_10 rfl (lv_at hl 0 rfl) ?_
      refine va_get (D := (dC, dI)) (ci := 8) (v := .ref m_many) (C := RX10) (T := TX10) (N := 33) hx hb hts iX10_write_X10 hown hK hP 0 rfl rfl 29 (by decide) (hts (.fieldLink RX10 65 "LuckyTicketModel" "many" "[I") (List.mem_of_getElem? (i := 9) rfl)) (fun _ h9 => h9) rfl dX10_write_11 ?_
      refine lv_iload_n hx hb dX10_write_14 rfl (lv_at hl 1 rfl) ?_
      refine va_iald hx hb hK hP 1 0 rfl rfl (vp_in_lit (by decide)) dX10_write_15 ?_
      refine lv_topi (fun z_5 ez_5 => ?_)
      obtain rfl : z_5 = (-1) := ez_5.trans (by decide)
      refine lv_iconst (v := (-1)) hx hb dX10_write_16 (by decide) ?_
      refine lv_icmp_ne (tgt := 23) hx hb dX10_write_17 (by decide) (fun c_6 => absurd c_6 (by decide)) (fun _ => ?_)
      refine lv_bipush (v := (-6)) hx hb dX10_write_20 (by decide) ?_
      exact W.iret (v := (-6)) hx hb hr (fun t ht hW => ⟨(-6), rfl, (by decide), ht⟩) t_nil dX10_write_22
    ·
      refine lv_aload_n hx hb dX10_write_10 rfl (lv_at hl 0 rfl) ?_
      refine va_get (D := (dC, dI)) (ci := 8) (v := .ref m_many) (C := RX10) (T := TX10) (N := 33) hx hb hts iX10_write_X10 hown hK hP 0 rfl rfl 29 (by decide) (hts (.fieldLink RX10 65 "LuckyTicketModel" "many" "[I") (List.mem_of_getElem? (i := 9) rfl)) (fun _ h9 => h9) rfl dX10_write_11 ?_
      refine lv_iload_n hx hb dX10_write_14 rfl (lv_at hl 1 rfl) ?_
      refine va_iald hx hb hK hP 1 0 rfl rfl (vp_in_lit (by decide)) dX10_write_15 ?_
      refine lv_topi (fun z_7 ez_7 => ?_)
      obtain rfl : z_7 = (-1) := ez_7.trans (by decide)
      refine lv_iconst (v := (-1)) hx hb dX10_write_16 (by decide) ?_
      refine lv_icmp_ne (tgt := 23) hx hb dX10_write_17 (by decide) (fun c_8 => absurd c_8 (by decide)) (fun _ => ?_)
      refine lv_bipush (v := (-6)) hx hb dX10_write_20 (by decide) ?_
      exact W.iret (v := (-6)) hx hb hr (fun t ht hW => ⟨(-6), rfl, (by decide), ht⟩) t_nil dX10_write_22
    ·
      refine lv_aload_n hx hb dX10_write_10 rfl (lv_at hl 0 rfl) ?_
      refine va_get (D := (dC, dI)) (ci := 8) (v := .ref m_many) (C := RX10) (T := TX10) (N := 33) hx hb hts iX10_write_X10 hown hK hP 0 rfl rfl 29 (by decide) (hts (.fieldLink RX10 65 "LuckyTicketModel" "many" "[I") (List.mem_of_getElem? (i := 9) rfl)) (fun _ h9 => h9) rfl dX10_write_11 ?_
      refine lv_iload_n hx hb dX10_write_14 rfl (lv_at hl 1 rfl) ?_
      refine va_iald hx hb hK hP 1 0 rfl rfl (vp_in_lit (by decide)) dX10_write_15 ?_
      refine lv_topi (fun z_9 ez_9 => ?_)
      obtain rfl : z_9 = (-1) := ez_9.trans (by decide)
      refine lv_iconst (v := (-1)) hx hb dX10_write_16 (by decide) ?_
      refine lv_icmp_ne (tgt := 23) hx hb dX10_write_17 (by decide) (fun c_10 => absurd c_10 (by decide)) (fun _ => ?_)
      refine lv_bipush (v := (-6)) hx hb dX10_write_20 (by decide) ?_
      exact W.iret (v := (-6)) hx hb hr (fun t ht hW => ⟨(-6), rfl, (by decide), ht⟩) t_nil dX10_write_22
  ·
    refine lv_bipush (v := (-2)) hx hb dX10_write_7 (by decide) ?_
    exact W.iret (v := (-2)) hx hb hr (fun t ht hW => ⟨(-2), rfl, (if_pos (hr_1.symm.trans c_2)).symm, ht⟩) t_nil dX10_write_9
theorem dX9_paste_0 : decode cX9_paste 0 = .ok (.aload_n 0, 1) := by decide +kernel
theorem dX9_paste_1 : decode cX9_paste 1 = .ok (.iload_n 1, 1) := by decide +kernel
theorem dX9_paste_2 : decode cX9_paste 2 = .ok (.invokevirtual 206, 3) := by decide +kernel
theorem dX9_paste_5 : decode cX9_paste 5 = .ok (.ifCond .eq 11, 3) := by decide +kernel
theorem dX9_paste_8 : decode cX9_paste 8 = .ok (.aload_n 0, 1) := by decide +kernel
theorem dX9_paste_9 : decode cX9_paste 9 = .ok (.iload_n 3, 1) := by decide +kernel
theorem dX9_paste_10 : decode cX9_paste 10 = .ok (.invokevirtual 206, 3) := by decide +kernel
theorem dX9_paste_13 : decode cX9_paste 13 = .ok (.ifCond .ne 6, 3) := by decide +kernel
theorem dX9_paste_16 : decode cX9_paste 16 = .ok (.bipush (-2), 2) := by decide +kernel
theorem dX9_paste_18 : decode cX9_paste 18 = .ok (.ireturn, 1) := by decide +kernel
theorem dX9_paste_19 : decode cX9_paste 19 = .ok (.aload_n 0, 1) := by decide +kernel
theorem dX9_paste_20 : decode cX9_paste 20 = .ok (.getfield 50, 3) := by decide +kernel
theorem dX9_paste_23 : decode cX9_paste 23 = .ok (.iload_n 1, 1) := by decide +kernel
theorem dX9_paste_24 : decode cX9_paste 24 = .ok (.aaload, 1) := by decide +kernel
theorem dX9_paste_25 : decode cX9_paste 25 = .ok (.astore 6, 2) := by decide +kernel
theorem dX9_paste_27 : decode cX9_paste 27 = .ok (.aload_n 0, 1) := by decide +kernel
theorem dX9_paste_28 : decode cX9_paste 28 = .ok (.getfield 50, 3) := by decide +kernel
theorem dX9_paste_31 : decode cX9_paste 31 = .ok (.iload_n 3, 1) := by decide +kernel
theorem dX9_paste_32 : decode cX9_paste 32 = .ok (.aaload, 1) := by decide +kernel
theorem dX9_paste_33 : decode cX9_paste 33 = .ok (.astore 7, 2) := by decide +kernel
theorem dX9_paste_35 : decode cX9_paste 35 = .ok (.aload 6, 2) := by decide +kernel
theorem dX9_paste_37 : decode cX9_paste 37 = .ok (.invokevirtual 270, 3) := by decide +kernel
theorem dX9_paste_40 : decode cX9_paste 40 = .ok (.ifCond .eq 11, 3) := by decide +kernel
theorem dX9_paste_51 : decode cX9_paste 51 = .ok (.bipush (-6), 2) := by decide +kernel
theorem dX9_paste_53 : decode cX9_paste 53 = .ok (.ireturn, 1) := by decide +kernel
def uX9_paste : List Cond := .code yX9_paste cX9_paste 8 (some .int) :: ([.methodLink RX9 206 yX9_hasSlot, .instanceMethod yX9_hasSlot, .selects RX9 yX9_hasSlot yX9_hasSlot, .initialized RX9, .code yX9_hasSlot cX9_hasSlot 2 (some .boolean), .fieldLink RX9 50 "LuckyTicket" "slots" "[LLuckyTicket$Row;", .methodLink RX9 158 yX9_isWithin, .static yX9_isWithin, .code yX9_isWithin cX9_isWithin 3 (some .boolean), .methodLink RX9 270 yX3_stands, .instanceMethod yX3_stands, .selects RX3 yX3_stands yX3_stands, .initialized RX3, .code yX3_stands cX3_stands 1 (some .boolean), .fieldLink RX3 9 "LuckyTicket$Row" "width" "I"] ++ wsX90 ++ wsX30)
theorem iX9_paste_X9 : ∀ w ∈ wsX90, w ∈ uX9_paste := fun _ h => List.mem_cons_of_mem _ (List.mem_append_left _ (List.mem_append_right _ h))
theorem iX9_paste_X3 : ∀ w ∈ wsX30, w ∈ uX9_paste := fun _ h => List.mem_cons_of_mem _ (List.mem_append_right _ h)
set_option maxRecDepth 20000 in
theorem gX9_paste__X9_hasSlot_V206 : GoodIn uX9_paste (wsV RX9 206 RX9 yX9_hasSlot uX9_hasSlot) := goodIn_p _ [5, 9] rfl (by decide +kernel)
set_option maxRecDepth 20000 in
theorem gX9_paste__X3_stands_V270 : GoodIn uX9_paste (wsV RX9 270 RX3 yX3_stands uX3_stands) := goodIn_p _ [14] rfl (by decide +kernel)
set_option maxHeartbeats 4000000 in
set_option maxRecDepth 100000 in
theorem kX9_paste (l : Launch) (dC : Nat → ClassId) (dI : Nat → Nat → Nat) (h0 : Nat) (tp : Nat) (sc : Nat) (rd : Nat) (cu : Nat) (im : Nat) (ig : Nat) (sl : Nat) (se : Nat) (su : Nat) (fc : Nat) (cS : ClassId) (s0 : Nat) (s1 : Nat) (s2 : Nat) (s3 : Nat) (n0 : Nat) (n1 : Nat) (n2 : Nat) (n3 : Nat) (a1 : Int32) (a2 : Int32) (a3 : Int32) (a4 : Int32) (a5 : Int32) : Met l yX9_paste uX9_paste ({ frames := 2, cells := 0, slots := 0, locals := 43 }) (va_Pc [.ref h0, .int a1, .int a2, .int a3, .int a4, .int a5] (pw (dC, dI) vwCl [(h0, .inr (7, [.ref tp, .ref sc, .ref rd, .ref cu, .ref im, .ref ig, .ref sl, .ref se, .ref su, .ref fc])), (sl, .inl (cS, 4, .inr (.inr (.inr (.inr (sf4 s0 s1 s2 s3)))))), (s0, .inr (2, [.int (-1), .int 0, .ref n0])), (s1, .inr (2, [.int (-1), .int 0, .ref n1])), (s2, .inr (2, [.int (-1), .int 0, .ref n2])), (s3, .inr (2, [.int (-1), .int 0, .ref n3]))] [(cS, .object RX3)])) (vp_Si (fun r => r = p2 a1 a3)) 0 0 (fun _ => False) := by
  refine Met.ofW (cc := cX9_paste) (maxL := 8) (ret := (some .int)) (by decide) rfl ?_
  intro p e s m args below meth c s₁ B hml hv
  obtain ⟨rfl, hP, hK, hN⟩ := hv
  have hx := B.exec
  have hb := B.bytes
  have hr := B.returns
  have hts := atoms_spec (ws := uX9_paste) B.pre
  have hown : s.vm.findClass RX9 = some m.cls := findClass_of_methodNamed B.named
  have hlocks := B.notSynchronized
  have hl := lv_entry ([.ref h0, .int a1, .int a2, .int a3, .int a4, .int a5]) (n := 8) (Nat.le_of_ble_eq_true rfl)
  rw [lg_entry_eq]
  generalize (lg_sl ([.ref h0, .int a1, .int a2, .int a3, .int a4, .int a5]) ++ List.replicate (8 - (lg_sl ([.ref h0, .int a1, .int a2, .int a3, .int a4, .int a5])).length) Slot.unset).toArray = ls at hl ⊢
  have hl : lv_has ls 8 [(0, .ref h0), (1, .int a1), (2, .int a2), (3, .int a3), (4, .int a4), (5, .int a5)] := hl
  refine lv_aload_n hx hb dX9_paste_0 rfl (lv_at hl 0 rfl) ?_
  refine lv_iload_n hx hb dX9_paste_1 rfl (lv_at hl 1 rfl) ?_
  refine vp_callSi (W.runV (As := [.int a1]) (rest := []) ⟨hx, hb, hml, hown, hts⟩ (kX9_hasSlot l dC dI h0 tp sc rd cu im ig sl se su fc cS (sf4 s0 s1 s2 s3) a1) (cwV 1 hts gX9_paste__X9_hasSlot_V206 rfl rfl rfl (by decide +kernel) ⟨lel 2 2 rfl, lel 43 43 rfl⟩) ⟨pw_fb, va_recv hK hP (ci := 7) (q0 := 0) rfl rfl, (pw_use hP hK hN [0, 1] rfl [0] rfl)⟩ rfl rfl hl.1 rfl (lv_room (Nat.le_of_ble_eq_true rfl)) dX9_paste_2 ⟨lel 0 0 rfl, lel 0 0 rfl⟩) (fun r_1 hr_1 => ?_)
  refine lv_if_eq (tgt := 16) hx hb dX9_paste_5 (by decide) (fun c_2 => ?_) (fun c_2 => ?_)
  ·
    refine lv_bipush (v := (-2)) hx hb dX9_paste_16 (by decide) ?_
    exact W.iret (v := (-2)) hx hb hr (fun t ht hW => ⟨(-2), rfl, (if_pos (Or.inl (hr_1.symm.trans c_2))).symm, ht⟩) t_nil dX9_paste_18
  ·
    refine lv_aload_n hx hb dX9_paste_8 rfl (lv_at hl 0 rfl) ?_
    refine lv_iload_n hx hb dX9_paste_9 rfl (lv_at hl 3 rfl) ?_
    refine vp_callSi (W.runV (As := [.int a3]) (rest := []) ⟨hx, hb, hml, hown, hts⟩ (kX9_hasSlot l dC dI h0 tp sc rd cu im ig sl se su fc cS (sf4 s0 s1 s2 s3) a3) (cwV 1 hts gX9_paste__X9_hasSlot_V206 rfl rfl rfl (by decide +kernel) ⟨lel 2 2 rfl, lel 43 43 rfl⟩) ⟨pw_fb, va_recv hK hP (ci := 7) (q0 := 0) rfl rfl, (pw_use hP hK hN [0, 1] rfl [0] rfl)⟩ rfl rfl hl.1 rfl (lv_room (Nat.le_of_ble_eq_true rfl)) dX9_paste_10 ⟨lel 0 0 rfl, lel 0 0 rfl⟩) (fun r_3 hr_3 => ?_)
    refine lv_if_ne (tgt := 19) hx hb dX9_paste_13 (by decide) (fun c_4 => ?_) (fun c_4 => ?_)
    ·
      rcases wi_4 (fun e => c_2 (hr_1.trans e)) with rfl | rfl | rfl | rfl
      ·
        rcases wi_4 (fun e => c_4 (hr_3.trans e)) with rfl | rfl | rfl | rfl
        ·
          refine lv_aload_n hx hb dX9_paste_19 rfl (lv_at hl 0 rfl) ?_
          refine va_get (D := (dC, dI)) (ci := 7) (v := .ref sl) (C := RX9) (T := TX9) (N := 10) hx hb hts iX9_paste_X9 hown hK hP 0 rfl rfl 6 (by decide) (hts (.fieldLink RX9 50 "LuckyTicket" "slots" "[LLuckyTicket$Row;") (List.mem_of_getElem? (i := 6) rfl)) (fun _ h9 => h9) rfl dX9_paste_20 ?_
          refine lv_iload_n hx hb dX9_paste_23 rfl (lv_at hl 1 rfl) ?_
          refine va_aldq hx hb hK hP 1 0 rfl rfl (vp_in_lit (by decide)) dX9_paste_24 ?_
          refine W.eq (g2 := F0 m 25 ls (.ref s0 :: [])) (congrArg (fun v => F0 m 25 ls (va_rf v :: [])) (sf4_0 s0 s1 s2 s3)) ?_
          refine lv_astore (lv' := [(6, .ref s0), (0, .ref h0), (1, .int 0), (2, .int a2), (3, .int 0), (4, .int a4), (5, .int a5)]) hx hb dX9_paste_25 hl (by decide) rfl (fun ls hl => ?_)
          refine lv_aload_n hx hb dX9_paste_27 rfl (lv_at hl 1 rfl) ?_
          refine va_get (D := (dC, dI)) (ci := 7) (v := .ref sl) (C := RX9) (T := TX9) (N := 10) hx hb hts iX9_paste_X9 hown hK hP 0 rfl rfl 6 (by decide) (hts (.fieldLink RX9 50 "LuckyTicket" "slots" "[LLuckyTicket$Row;") (List.mem_of_getElem? (i := 6) rfl)) (fun _ h9 => h9) rfl dX9_paste_28 ?_
          refine lv_iload_n hx hb dX9_paste_31 rfl (lv_at hl 4 rfl) ?_
          refine va_aldq hx hb hK hP 1 0 rfl rfl (vp_in_lit (by decide)) dX9_paste_32 ?_
          refine W.eq (g2 := F0 m 33 ls (.ref s0 :: [])) (congrArg (fun v => F0 m 33 ls (va_rf v :: [])) (sf4_0 s0 s1 s2 s3)) ?_
          refine lv_astore (lv' := [(7, .ref s0), (6, .ref s0), (0, .ref h0), (1, .int 0), (2, .int a2), (3, .int 0), (4, .int a4), (5, .int a5)]) hx hb dX9_paste_33 hl (by decide) rfl (fun ls hl => ?_)
          refine lv_aload hx hb dX9_paste_35 (lv_at hl 1 rfl) ?_
          refine vp_callSi (W.runV (As := []) (rest := []) ⟨hx, hb, hml, hown, hts⟩ (kX3_stands l dC dI s0 n0) (cwV 0 hts gX9_paste__X3_stands_V270 rfl rfl rfl (by decide +kernel) ⟨lel 1 2 rfl, lel 20 43 rfl⟩) ⟨pw_fb, va_recv hK hP (ci := 2) (q0 := 2) rfl rfl, (pw_use hP hK hN [2] rfl [] rfl)⟩ rfl rfl hl.1 rfl (lv_room (Nat.le_of_ble_eq_true rfl)) dX9_paste_37 ⟨lel 0 0 rfl, lel 0 0 rfl⟩) (fun r_5 hr_5 => ?_)
          obtain rfl : r_5 = 0 := hr_5
          refine lv_if_eq (tgt := 51) hx hb dX9_paste_40 (by decide) (fun _ => ?_) (fun c_6 => absurd c_6 (by decide))
          refine lv_bipush (v := (-6)) hx hb dX9_paste_51 (by decide) ?_
          exact W.iret (v := (-6)) hx hb hr (fun t ht hW => ⟨(-6), rfl, (by decide), ht⟩) t_nil dX9_paste_53
        ·
          refine lv_aload_n hx hb dX9_paste_19 rfl (lv_at hl 0 rfl) ?_
          refine va_get (D := (dC, dI)) (ci := 7) (v := .ref sl) (C := RX9) (T := TX9) (N := 10) hx hb hts iX9_paste_X9 hown hK hP 0 rfl rfl 6 (by decide) (hts (.fieldLink RX9 50 "LuckyTicket" "slots" "[LLuckyTicket$Row;") (List.mem_of_getElem? (i := 6) rfl)) (fun _ h9 => h9) rfl dX9_paste_20 ?_
          refine lv_iload_n hx hb dX9_paste_23 rfl (lv_at hl 1 rfl) ?_
          refine va_aldq hx hb hK hP 1 0 rfl rfl (vp_in_lit (by decide)) dX9_paste_24 ?_
          refine W.eq (g2 := F0 m 25 ls (.ref s0 :: [])) (congrArg (fun v => F0 m 25 ls (va_rf v :: [])) (sf4_0 s0 s1 s2 s3)) ?_
          refine lv_astore (lv' := [(6, .ref s0), (0, .ref h0), (1, .int 0), (2, .int a2), (3, .int 1), (4, .int a4), (5, .int a5)]) hx hb dX9_paste_25 hl (by decide) rfl (fun ls hl => ?_)
          refine lv_aload_n hx hb dX9_paste_27 rfl (lv_at hl 1 rfl) ?_
          refine va_get (D := (dC, dI)) (ci := 7) (v := .ref sl) (C := RX9) (T := TX9) (N := 10) hx hb hts iX9_paste_X9 hown hK hP 0 rfl rfl 6 (by decide) (hts (.fieldLink RX9 50 "LuckyTicket" "slots" "[LLuckyTicket$Row;") (List.mem_of_getElem? (i := 6) rfl)) (fun _ h9 => h9) rfl dX9_paste_28 ?_
          refine lv_iload_n hx hb dX9_paste_31 rfl (lv_at hl 4 rfl) ?_
          refine va_aldq hx hb hK hP 1 0 rfl rfl (vp_in_lit (by decide)) dX9_paste_32 ?_
          refine W.eq (g2 := F0 m 33 ls (.ref s1 :: [])) (congrArg (fun v => F0 m 33 ls (va_rf v :: [])) (sf4_1 s0 s1 s2 s3)) ?_
          refine lv_astore (lv' := [(7, .ref s1), (6, .ref s0), (0, .ref h0), (1, .int 0), (2, .int a2), (3, .int 1), (4, .int a4), (5, .int a5)]) hx hb dX9_paste_33 hl (by decide) rfl (fun ls hl => ?_)
          refine lv_aload hx hb dX9_paste_35 (lv_at hl 1 rfl) ?_
          refine vp_callSi (W.runV (As := []) (rest := []) ⟨hx, hb, hml, hown, hts⟩ (kX3_stands l dC dI s0 n0) (cwV 0 hts gX9_paste__X3_stands_V270 rfl rfl rfl (by decide +kernel) ⟨lel 1 2 rfl, lel 20 43 rfl⟩) ⟨pw_fb, va_recv hK hP (ci := 2) (q0 := 2) rfl rfl, (pw_use hP hK hN [2] rfl [] rfl)⟩ rfl rfl hl.1 rfl (lv_room (Nat.le_of_ble_eq_true rfl)) dX9_paste_37 ⟨lel 0 0 rfl, lel 0 0 rfl⟩) (fun r_7 hr_7 => ?_)
          obtain rfl : r_7 = 0 := hr_7
          refine lv_if_eq (tgt := 51) hx hb dX9_paste_40 (by decide) (fun _ => ?_) (fun c_8 => absurd c_8 (by decide))
          refine lv_bipush (v := (-6)) hx hb dX9_paste_51 (by decide) ?_
          exact W.iret (v := (-6)) hx hb hr (fun t ht hW => ⟨(-6), rfl, (by decide), ht⟩) t_nil dX9_paste_53
        ·
          refine lv_aload_n hx hb dX9_paste_19 rfl (lv_at hl 0 rfl) ?_
          refine va_get (D := (dC, dI)) (ci := 7) (v := .ref sl) (C := RX9) (T := TX9) (N := 10) hx hb hts iX9_paste_X9 hown hK hP 0 rfl rfl 6 (by decide) (hts (.fieldLink RX9 50 "LuckyTicket" "slots" "[LLuckyTicket$Row;") (List.mem_of_getElem? (i := 6) rfl)) (fun _ h9 => h9) rfl dX9_paste_20 ?_
          refine lv_iload_n hx hb dX9_paste_23 rfl (lv_at hl 1 rfl) ?_
          refine va_aldq hx hb hK hP 1 0 rfl rfl (vp_in_lit (by decide)) dX9_paste_24 ?_
          refine W.eq (g2 := F0 m 25 ls (.ref s0 :: [])) (congrArg (fun v => F0 m 25 ls (va_rf v :: [])) (sf4_0 s0 s1 s2 s3)) ?_
          refine lv_astore (lv' := [(6, .ref s0), (0, .ref h0), (1, .int 0), (2, .int a2), (3, .int 2), (4, .int a4), (5, .int a5)]) hx hb dX9_paste_25 hl (by decide) rfl (fun ls hl => ?_)
          refine lv_aload_n hx hb dX9_paste_27 rfl (lv_at hl 1 rfl) ?_
          refine va_get (D := (dC, dI)) (ci := 7) (v := .ref sl) (C := RX9) (T := TX9) (N := 10) hx hb hts iX9_paste_X9 hown hK hP 0 rfl rfl 6 (by decide) (hts (.fieldLink RX9 50 "LuckyTicket" "slots" "[LLuckyTicket$Row;") (List.mem_of_getElem? (i := 6) rfl)) (fun _ h9 => h9) rfl dX9_paste_28 ?_
          refine lv_iload_n hx hb dX9_paste_31 rfl (lv_at hl 4 rfl) ?_
          refine va_aldq hx hb hK hP 1 0 rfl rfl (vp_in_lit (by decide)) dX9_paste_32 ?_
          refine W.eq (g2 := F0 m 33 ls (.ref s2 :: [])) (congrArg (fun v => F0 m 33 ls (va_rf v :: [])) (sf4_2 s0 s1 s2 s3)) ?_
          refine lv_astore (lv' := [(7, .ref s2), (6, .ref s0), (0, .ref h0), (1, .int 0), (2, .int a2), (3, .int 2), (4, .int a4), (5, .int a5)]) hx hb dX9_paste_33 hl (by decide) rfl (fun ls hl => ?_)
          refine lv_aload hx hb dX9_paste_35 (lv_at hl 1 rfl) ?_
          refine vp_callSi (W.runV (As := []) (rest := []) ⟨hx, hb, hml, hown, hts⟩ (kX3_stands l dC dI s0 n0) (cwV 0 hts gX9_paste__X3_stands_V270 rfl rfl rfl (by decide +kernel) ⟨lel 1 2 rfl, lel 20 43 rfl⟩) ⟨pw_fb, va_recv hK hP (ci := 2) (q0 := 2) rfl rfl, (pw_use hP hK hN [2] rfl [] rfl)⟩ rfl rfl hl.1 rfl (lv_room (Nat.le_of_ble_eq_true rfl)) dX9_paste_37 ⟨lel 0 0 rfl, lel 0 0 rfl⟩) (fun r_9 hr_9 => ?_)
          obtain rfl : r_9 = 0 := hr_9
          refine lv_if_eq (tgt := 51) hx hb dX9_paste_40 (by decide) (fun _ => ?_) (fun c_10 => absurd c_10 (by decide))
          refine lv_bipush (v := (-6)) hx hb dX9_paste_51 (by decide) ?_
          exact W.iret (v := (-6)) hx hb hr (fun t ht hW => ⟨(-6), rfl, (by decide), ht⟩) t_nil dX9_paste_53
        ·
          refine lv_aload_n hx hb dX9_paste_19 rfl (lv_at hl 0 rfl) ?_
          refine va_get (D := (dC, dI)) (ci := 7) (v := .ref sl) (C := RX9) (T := TX9) (N := 10) hx hb hts iX9_paste_X9 hown hK hP 0 rfl rfl 6 (by decide) (hts (.fieldLink RX9 50 "LuckyTicket" "slots" "[LLuckyTicket$Row;") (List.mem_of_getElem? (i := 6) rfl)) (fun _ h9 => h9) rfl dX9_paste_20 ?_
          refine lv_iload_n hx hb dX9_paste_23 rfl (lv_at hl 1 rfl) ?_
          refine va_aldq hx hb hK hP 1 0 rfl rfl (vp_in_lit (by decide)) dX9_paste_24 ?_
          refine W.eq (g2 := F0 m 25 ls (.ref s0 :: [])) (congrArg (fun v => F0 m 25 ls (va_rf v :: [])) (sf4_0 s0 s1 s2 s3)) ?_
          refine lv_astore (lv' := [(6, .ref s0), (0, .ref h0), (1, .int 0), (2, .int a2), (3, .int 3), (4, .int a4), (5, .int a5)]) hx hb dX9_paste_25 hl (by decide) rfl (fun ls hl => ?_)
          refine lv_aload_n hx hb dX9_paste_27 rfl (lv_at hl 1 rfl) ?_
          refine va_get (D := (dC, dI)) (ci := 7) (v := .ref sl) (C := RX9) (T := TX9) (N := 10) hx hb hts iX9_paste_X9 hown hK hP 0 rfl rfl 6 (by decide) (hts (.fieldLink RX9 50 "LuckyTicket" "slots" "[LLuckyTicket$Row;") (List.mem_of_getElem? (i := 6) rfl)) (fun _ h9 => h9) rfl dX9_paste_28 ?_
          refine lv_iload_n hx hb dX9_paste_31 rfl (lv_at hl 4 rfl) ?_
          refine va_aldq hx hb hK hP 1 0 rfl rfl (vp_in_lit (by decide)) dX9_paste_32 ?_
          refine W.eq (g2 := F0 m 33 ls (.ref s3 :: [])) (congrArg (fun v => F0 m 33 ls (va_rf v :: [])) (sf4_3 s0 s1 s2 s3)) ?_
          refine lv_astore (lv' := [(7, .ref s3), (6, .ref s0), (0, .ref h0), (1, .int 0), (2, .int a2), (3, .int 3), (4, .int a4), (5, .int a5)]) hx hb dX9_paste_33 hl (by decide) rfl (fun ls hl => ?_)
          refine lv_aload hx hb dX9_paste_35 (lv_at hl 1 rfl) ?_
          refine vp_callSi (W.runV (As := []) (rest := []) ⟨hx, hb, hml, hown, hts⟩ (kX3_stands l dC dI s0 n0) (cwV 0 hts gX9_paste__X3_stands_V270 rfl rfl rfl (by decide +kernel) ⟨lel 1 2 rfl, lel 20 43 rfl⟩) ⟨pw_fb, va_recv hK hP (ci := 2) (q0 := 2) rfl rfl, (pw_use hP hK hN [2] rfl [] rfl)⟩ rfl rfl hl.1 rfl (lv_room (Nat.le_of_ble_eq_true rfl)) dX9_paste_37 ⟨lel 0 0 rfl, lel 0 0 rfl⟩) (fun r_11 hr_11 => ?_)
          obtain rfl : r_11 = 0 := hr_11
          refine lv_if_eq (tgt := 51) hx hb dX9_paste_40 (by decide) (fun _ => ?_) (fun c_12 => absurd c_12 (by decide))
          refine lv_bipush (v := (-6)) hx hb dX9_paste_51 (by decide) ?_
          exact W.iret (v := (-6)) hx hb hr (fun t ht hW => ⟨(-6), rfl, (by decide), ht⟩) t_nil dX9_paste_53
      ·
        rcases wi_4 (fun e => c_4 (hr_3.trans e)) with rfl | rfl | rfl | rfl
        ·
          refine lv_aload_n hx hb dX9_paste_19 rfl (lv_at hl 0 rfl) ?_
          refine va_get (D := (dC, dI)) (ci := 7) (v := .ref sl) (C := RX9) (T := TX9) (N := 10) hx hb hts iX9_paste_X9 hown hK hP 0 rfl rfl 6 (by decide) (hts (.fieldLink RX9 50 "LuckyTicket" "slots" "[LLuckyTicket$Row;") (List.mem_of_getElem? (i := 6) rfl)) (fun _ h9 => h9) rfl dX9_paste_20 ?_
          refine lv_iload_n hx hb dX9_paste_23 rfl (lv_at hl 1 rfl) ?_
          refine va_aldq hx hb hK hP 1 0 rfl rfl (vp_in_lit (by decide)) dX9_paste_24 ?_
          refine W.eq (g2 := F0 m 25 ls (.ref s1 :: [])) (congrArg (fun v => F0 m 25 ls (va_rf v :: [])) (sf4_1 s0 s1 s2 s3)) ?_
          refine lv_astore (lv' := [(6, .ref s1), (0, .ref h0), (1, .int 1), (2, .int a2), (3, .int 0), (4, .int a4), (5, .int a5)]) hx hb dX9_paste_25 hl (by decide) rfl (fun ls hl => ?_)
          refine lv_aload_n hx hb dX9_paste_27 rfl (lv_at hl 1 rfl) ?_
          refine va_get (D := (dC, dI)) (ci := 7) (v := .ref sl) (C := RX9) (T := TX9) (N := 10) hx hb hts iX9_paste_X9 hown hK hP 0 rfl rfl 6 (by decide) (hts (.fieldLink RX9 50 "LuckyTicket" "slots" "[LLuckyTicket$Row;") (List.mem_of_getElem? (i := 6) rfl)) (fun _ h9 => h9) rfl dX9_paste_28 ?_
          refine lv_iload_n hx hb dX9_paste_31 rfl (lv_at hl 4 rfl) ?_
          refine va_aldq hx hb hK hP 1 0 rfl rfl (vp_in_lit (by decide)) dX9_paste_32 ?_
          refine W.eq (g2 := F0 m 33 ls (.ref s0 :: [])) (congrArg (fun v => F0 m 33 ls (va_rf v :: [])) (sf4_0 s0 s1 s2 s3)) ?_
          refine lv_astore (lv' := [(7, .ref s0), (6, .ref s1), (0, .ref h0), (1, .int 1), (2, .int a2), (3, .int 0), (4, .int a4), (5, .int a5)]) hx hb dX9_paste_33 hl (by decide) rfl (fun ls hl => ?_)
          refine lv_aload hx hb dX9_paste_35 (lv_at hl 1 rfl) ?_
          refine vp_callSi (W.runV (As := []) (rest := []) ⟨hx, hb, hml, hown, hts⟩ (kX3_stands l dC dI s1 n1) (cwV 0 hts gX9_paste__X3_stands_V270 rfl rfl rfl (by decide +kernel) ⟨lel 1 2 rfl, lel 20 43 rfl⟩) ⟨pw_fb, va_recv hK hP (ci := 2) (q0 := 3) rfl rfl, (pw_use hP hK hN [3] rfl [] rfl)⟩ rfl rfl hl.1 rfl (lv_room (Nat.le_of_ble_eq_true rfl)) dX9_paste_37 ⟨lel 0 0 rfl, lel 0 0 rfl⟩) (fun r_13 hr_13 => ?_)
          obtain rfl : r_13 = 0 := hr_13
          refine lv_if_eq (tgt := 51) hx hb dX9_paste_40 (by decide) (fun _ => ?_) (fun c_14 => absurd c_14 (by decide))
          refine lv_bipush (v := (-6)) hx hb dX9_paste_51 (by decide) ?_
          exact W.iret (v := (-6)) hx hb hr (fun t ht hW => ⟨(-6), rfl, (by decide), ht⟩) t_nil dX9_paste_53
        ·
          refine lv_aload_n hx hb dX9_paste_19 rfl (lv_at hl 0 rfl) ?_
          refine va_get (D := (dC, dI)) (ci := 7) (v := .ref sl) (C := RX9) (T := TX9) (N := 10) hx hb hts iX9_paste_X9 hown hK hP 0 rfl rfl 6 (by decide) (hts (.fieldLink RX9 50 "LuckyTicket" "slots" "[LLuckyTicket$Row;") (List.mem_of_getElem? (i := 6) rfl)) (fun _ h9 => h9) rfl dX9_paste_20 ?_
          refine lv_iload_n hx hb dX9_paste_23 rfl (lv_at hl 1 rfl) ?_
          refine va_aldq hx hb hK hP 1 0 rfl rfl (vp_in_lit (by decide)) dX9_paste_24 ?_
          refine W.eq (g2 := F0 m 25 ls (.ref s1 :: [])) (congrArg (fun v => F0 m 25 ls (va_rf v :: [])) (sf4_1 s0 s1 s2 s3)) ?_
          refine lv_astore (lv' := [(6, .ref s1), (0, .ref h0), (1, .int 1), (2, .int a2), (3, .int 1), (4, .int a4), (5, .int a5)]) hx hb dX9_paste_25 hl (by decide) rfl (fun ls hl => ?_)
          refine lv_aload_n hx hb dX9_paste_27 rfl (lv_at hl 1 rfl) ?_
          refine va_get (D := (dC, dI)) (ci := 7) (v := .ref sl) (C := RX9) (T := TX9) (N := 10) hx hb hts iX9_paste_X9 hown hK hP 0 rfl rfl 6 (by decide) (hts (.fieldLink RX9 50 "LuckyTicket" "slots" "[LLuckyTicket$Row;") (List.mem_of_getElem? (i := 6) rfl)) (fun _ h9 => h9) rfl dX9_paste_28 ?_
          refine lv_iload_n hx hb dX9_paste_31 rfl (lv_at hl 4 rfl) ?_
          refine va_aldq hx hb hK hP 1 0 rfl rfl (vp_in_lit (by decide)) dX9_paste_32 ?_
          refine W.eq (g2 := F0 m 33 ls (.ref s1 :: [])) (congrArg (fun v => F0 m 33 ls (va_rf v :: [])) (sf4_1 s0 s1 s2 s3)) ?_
          refine lv_astore (lv' := [(7, .ref s1), (6, .ref s1), (0, .ref h0), (1, .int 1), (2, .int a2), (3, .int 1), (4, .int a4), (5, .int a5)]) hx hb dX9_paste_33 hl (by decide) rfl (fun ls hl => ?_)
          refine lv_aload hx hb dX9_paste_35 (lv_at hl 1 rfl) ?_
          refine vp_callSi (W.runV (As := []) (rest := []) ⟨hx, hb, hml, hown, hts⟩ (kX3_stands l dC dI s1 n1) (cwV 0 hts gX9_paste__X3_stands_V270 rfl rfl rfl (by decide +kernel) ⟨lel 1 2 rfl, lel 20 43 rfl⟩) ⟨pw_fb, va_recv hK hP (ci := 2) (q0 := 3) rfl rfl, (pw_use hP hK hN [3] rfl [] rfl)⟩ rfl rfl hl.1 rfl (lv_room (Nat.le_of_ble_eq_true rfl)) dX9_paste_37 ⟨lel 0 0 rfl, lel 0 0 rfl⟩) (fun r_15 hr_15 => ?_)
          obtain rfl : r_15 = 0 := hr_15
          refine lv_if_eq (tgt := 51) hx hb dX9_paste_40 (by decide) (fun _ => ?_) (fun c_16 => absurd c_16 (by decide))
          refine lv_bipush (v := (-6)) hx hb dX9_paste_51 (by decide) ?_
          exact W.iret (v := (-6)) hx hb hr (fun t ht hW => ⟨(-6), rfl, (by decide), ht⟩) t_nil dX9_paste_53
        ·
          refine lv_aload_n hx hb dX9_paste_19 rfl (lv_at hl 0 rfl) ?_
          refine va_get (D := (dC, dI)) (ci := 7) (v := .ref sl) (C := RX9) (T := TX9) (N := 10) hx hb hts iX9_paste_X9 hown hK hP 0 rfl rfl 6 (by decide) (hts (.fieldLink RX9 50 "LuckyTicket" "slots" "[LLuckyTicket$Row;") (List.mem_of_getElem? (i := 6) rfl)) (fun _ h9 => h9) rfl dX9_paste_20 ?_
          refine lv_iload_n hx hb dX9_paste_23 rfl (lv_at hl 1 rfl) ?_
          refine va_aldq hx hb hK hP 1 0 rfl rfl (vp_in_lit (by decide)) dX9_paste_24 ?_
          refine W.eq (g2 := F0 m 25 ls (.ref s1 :: [])) (congrArg (fun v => F0 m 25 ls (va_rf v :: [])) (sf4_1 s0 s1 s2 s3)) ?_
          refine lv_astore (lv' := [(6, .ref s1), (0, .ref h0), (1, .int 1), (2, .int a2), (3, .int 2), (4, .int a4), (5, .int a5)]) hx hb dX9_paste_25 hl (by decide) rfl (fun ls hl => ?_)
          refine lv_aload_n hx hb dX9_paste_27 rfl (lv_at hl 1 rfl) ?_
          refine va_get (D := (dC, dI)) (ci := 7) (v := .ref sl) (C := RX9) (T := TX9) (N := 10) hx hb hts iX9_paste_X9 hown hK hP 0 rfl rfl 6 (by decide) (hts (.fieldLink RX9 50 "LuckyTicket" "slots" "[LLuckyTicket$Row;") (List.mem_of_getElem? (i := 6) rfl)) (fun _ h9 => h9) rfl dX9_paste_28 ?_
          refine lv_iload_n hx hb dX9_paste_31 rfl (lv_at hl 4 rfl) ?_
          refine va_aldq hx hb hK hP 1 0 rfl rfl (vp_in_lit (by decide)) dX9_paste_32 ?_
          refine W.eq (g2 := F0 m 33 ls (.ref s2 :: [])) (congrArg (fun v => F0 m 33 ls (va_rf v :: [])) (sf4_2 s0 s1 s2 s3)) ?_
          refine lv_astore (lv' := [(7, .ref s2), (6, .ref s1), (0, .ref h0), (1, .int 1), (2, .int a2), (3, .int 2), (4, .int a4), (5, .int a5)]) hx hb dX9_paste_33 hl (by decide) rfl (fun ls hl => ?_)
          refine lv_aload hx hb dX9_paste_35 (lv_at hl 1 rfl) ?_
          refine vp_callSi (W.runV (As := []) (rest := []) ⟨hx, hb, hml, hown, hts⟩ (kX3_stands l dC dI s1 n1) (cwV 0 hts gX9_paste__X3_stands_V270 rfl rfl rfl (by decide +kernel) ⟨lel 1 2 rfl, lel 20 43 rfl⟩) ⟨pw_fb, va_recv hK hP (ci := 2) (q0 := 3) rfl rfl, (pw_use hP hK hN [3] rfl [] rfl)⟩ rfl rfl hl.1 rfl (lv_room (Nat.le_of_ble_eq_true rfl)) dX9_paste_37 ⟨lel 0 0 rfl, lel 0 0 rfl⟩) (fun r_17 hr_17 => ?_)
          obtain rfl : r_17 = 0 := hr_17
          refine lv_if_eq (tgt := 51) hx hb dX9_paste_40 (by decide) (fun _ => ?_) (fun c_18 => absurd c_18 (by decide))
          refine lv_bipush (v := (-6)) hx hb dX9_paste_51 (by decide) ?_
          exact W.iret (v := (-6)) hx hb hr (fun t ht hW => ⟨(-6), rfl, (by decide), ht⟩) t_nil dX9_paste_53
        ·
          refine lv_aload_n hx hb dX9_paste_19 rfl (lv_at hl 0 rfl) ?_
          refine va_get (D := (dC, dI)) (ci := 7) (v := .ref sl) (C := RX9) (T := TX9) (N := 10) hx hb hts iX9_paste_X9 hown hK hP 0 rfl rfl 6 (by decide) (hts (.fieldLink RX9 50 "LuckyTicket" "slots" "[LLuckyTicket$Row;") (List.mem_of_getElem? (i := 6) rfl)) (fun _ h9 => h9) rfl dX9_paste_20 ?_
          refine lv_iload_n hx hb dX9_paste_23 rfl (lv_at hl 1 rfl) ?_
          refine va_aldq hx hb hK hP 1 0 rfl rfl (vp_in_lit (by decide)) dX9_paste_24 ?_
          refine W.eq (g2 := F0 m 25 ls (.ref s1 :: [])) (congrArg (fun v => F0 m 25 ls (va_rf v :: [])) (sf4_1 s0 s1 s2 s3)) ?_
          refine lv_astore (lv' := [(6, .ref s1), (0, .ref h0), (1, .int 1), (2, .int a2), (3, .int 3), (4, .int a4), (5, .int a5)]) hx hb dX9_paste_25 hl (by decide) rfl (fun ls hl => ?_)
          refine lv_aload_n hx hb dX9_paste_27 rfl (lv_at hl 1 rfl) ?_
          refine va_get (D := (dC, dI)) (ci := 7) (v := .ref sl) (C := RX9) (T := TX9) (N := 10) hx hb hts iX9_paste_X9 hown hK hP 0 rfl rfl 6 (by decide) (hts (.fieldLink RX9 50 "LuckyTicket" "slots" "[LLuckyTicket$Row;") (List.mem_of_getElem? (i := 6) rfl)) (fun _ h9 => h9) rfl dX9_paste_28 ?_
          refine lv_iload_n hx hb dX9_paste_31 rfl (lv_at hl 4 rfl) ?_
          refine va_aldq hx hb hK hP 1 0 rfl rfl (vp_in_lit (by decide)) dX9_paste_32 ?_
          refine W.eq (g2 := F0 m 33 ls (.ref s3 :: [])) (congrArg (fun v => F0 m 33 ls (va_rf v :: [])) (sf4_3 s0 s1 s2 s3)) ?_
          refine lv_astore (lv' := [(7, .ref s3), (6, .ref s1), (0, .ref h0), (1, .int 1), (2, .int a2), (3, .int 3), (4, .int a4), (5, .int a5)]) hx hb dX9_paste_33 hl (by decide) rfl (fun ls hl => ?_)
          refine lv_aload hx hb dX9_paste_35 (lv_at hl 1 rfl) ?_
          refine vp_callSi (W.runV (As := []) (rest := []) ⟨hx, hb, hml, hown, hts⟩ (kX3_stands l dC dI s1 n1) (cwV 0 hts gX9_paste__X3_stands_V270 rfl rfl rfl (by decide +kernel) ⟨lel 1 2 rfl, lel 20 43 rfl⟩) ⟨pw_fb, va_recv hK hP (ci := 2) (q0 := 3) rfl rfl, (pw_use hP hK hN [3] rfl [] rfl)⟩ rfl rfl hl.1 rfl (lv_room (Nat.le_of_ble_eq_true rfl)) dX9_paste_37 ⟨lel 0 0 rfl, lel 0 0 rfl⟩) (fun r_19 hr_19 => ?_)
          obtain rfl : r_19 = 0 := hr_19
          refine lv_if_eq (tgt := 51) hx hb dX9_paste_40 (by decide) (fun _ => ?_) (fun c_20 => absurd c_20 (by decide))
          refine lv_bipush (v := (-6)) hx hb dX9_paste_51 (by decide) ?_
          exact W.iret (v := (-6)) hx hb hr (fun t ht hW => ⟨(-6), rfl, (by decide), ht⟩) t_nil dX9_paste_53
      ·
        rcases wi_4 (fun e => c_4 (hr_3.trans e)) with rfl | rfl | rfl | rfl
        ·
          refine lv_aload_n hx hb dX9_paste_19 rfl (lv_at hl 0 rfl) ?_
          refine va_get (D := (dC, dI)) (ci := 7) (v := .ref sl) (C := RX9) (T := TX9) (N := 10) hx hb hts iX9_paste_X9 hown hK hP 0 rfl rfl 6 (by decide) (hts (.fieldLink RX9 50 "LuckyTicket" "slots" "[LLuckyTicket$Row;") (List.mem_of_getElem? (i := 6) rfl)) (fun _ h9 => h9) rfl dX9_paste_20 ?_
          refine lv_iload_n hx hb dX9_paste_23 rfl (lv_at hl 1 rfl) ?_
          refine va_aldq hx hb hK hP 1 0 rfl rfl (vp_in_lit (by decide)) dX9_paste_24 ?_
          refine W.eq (g2 := F0 m 25 ls (.ref s2 :: [])) (congrArg (fun v => F0 m 25 ls (va_rf v :: [])) (sf4_2 s0 s1 s2 s3)) ?_
          refine lv_astore (lv' := [(6, .ref s2), (0, .ref h0), (1, .int 2), (2, .int a2), (3, .int 0), (4, .int a4), (5, .int a5)]) hx hb dX9_paste_25 hl (by decide) rfl (fun ls hl => ?_)
          refine lv_aload_n hx hb dX9_paste_27 rfl (lv_at hl 1 rfl) ?_
          refine va_get (D := (dC, dI)) (ci := 7) (v := .ref sl) (C := RX9) (T := TX9) (N := 10) hx hb hts iX9_paste_X9 hown hK hP 0 rfl rfl 6 (by decide) (hts (.fieldLink RX9 50 "LuckyTicket" "slots" "[LLuckyTicket$Row;") (List.mem_of_getElem? (i := 6) rfl)) (fun _ h9 => h9) rfl dX9_paste_28 ?_
          refine lv_iload_n hx hb dX9_paste_31 rfl (lv_at hl 4 rfl) ?_
          refine va_aldq hx hb hK hP 1 0 rfl rfl (vp_in_lit (by decide)) dX9_paste_32 ?_
          refine W.eq (g2 := F0 m 33 ls (.ref s0 :: [])) (congrArg (fun v => F0 m 33 ls (va_rf v :: [])) (sf4_0 s0 s1 s2 s3)) ?_
          refine lv_astore (lv' := [(7, .ref s0), (6, .ref s2), (0, .ref h0), (1, .int 2), (2, .int a2), (3, .int 0), (4, .int a4), (5, .int a5)]) hx hb dX9_paste_33 hl (by decide) rfl (fun ls hl => ?_)
          refine lv_aload hx hb dX9_paste_35 (lv_at hl 1 rfl) ?_
          refine vp_callSi (W.runV (As := []) (rest := []) ⟨hx, hb, hml, hown, hts⟩ (kX3_stands l dC dI s2 n2) (cwV 0 hts gX9_paste__X3_stands_V270 rfl rfl rfl (by decide +kernel) ⟨lel 1 2 rfl, lel 20 43 rfl⟩) ⟨pw_fb, va_recv hK hP (ci := 2) (q0 := 4) rfl rfl, (pw_use hP hK hN [4] rfl [] rfl)⟩ rfl rfl hl.1 rfl (lv_room (Nat.le_of_ble_eq_true rfl)) dX9_paste_37 ⟨lel 0 0 rfl, lel 0 0 rfl⟩) (fun r_21 hr_21 => ?_)
          obtain rfl : r_21 = 0 := hr_21
          refine lv_if_eq (tgt := 51) hx hb dX9_paste_40 (by decide) (fun _ => ?_) (fun c_22 => absurd c_22 (by decide))
          refine lv_bipush (v := (-6)) hx hb dX9_paste_51 (by decide) ?_
          exact W.iret (v := (-6)) hx hb hr (fun t ht hW => ⟨(-6), rfl, (by decide), ht⟩) t_nil dX9_paste_53
        ·
          refine lv_aload_n hx hb dX9_paste_19 rfl (lv_at hl 0 rfl) ?_
          refine va_get (D := (dC, dI)) (ci := 7) (v := .ref sl) (C := RX9) (T := TX9) (N := 10) hx hb hts iX9_paste_X9 hown hK hP 0 rfl rfl 6 (by decide) (hts (.fieldLink RX9 50 "LuckyTicket" "slots" "[LLuckyTicket$Row;") (List.mem_of_getElem? (i := 6) rfl)) (fun _ h9 => h9) rfl dX9_paste_20 ?_
          refine lv_iload_n hx hb dX9_paste_23 rfl (lv_at hl 1 rfl) ?_
          refine va_aldq hx hb hK hP 1 0 rfl rfl (vp_in_lit (by decide)) dX9_paste_24 ?_
          refine W.eq (g2 := F0 m 25 ls (.ref s2 :: [])) (congrArg (fun v => F0 m 25 ls (va_rf v :: [])) (sf4_2 s0 s1 s2 s3)) ?_
          refine lv_astore (lv' := [(6, .ref s2), (0, .ref h0), (1, .int 2), (2, .int a2), (3, .int 1), (4, .int a4), (5, .int a5)]) hx hb dX9_paste_25 hl (by decide) rfl (fun ls hl => ?_)
          refine lv_aload_n hx hb dX9_paste_27 rfl (lv_at hl 1 rfl) ?_
          refine va_get (D := (dC, dI)) (ci := 7) (v := .ref sl) (C := RX9) (T := TX9) (N := 10) hx hb hts iX9_paste_X9 hown hK hP 0 rfl rfl 6 (by decide) (hts (.fieldLink RX9 50 "LuckyTicket" "slots" "[LLuckyTicket$Row;") (List.mem_of_getElem? (i := 6) rfl)) (fun _ h9 => h9) rfl dX9_paste_28 ?_
          refine lv_iload_n hx hb dX9_paste_31 rfl (lv_at hl 4 rfl) ?_
          refine va_aldq hx hb hK hP 1 0 rfl rfl (vp_in_lit (by decide)) dX9_paste_32 ?_
          refine W.eq (g2 := F0 m 33 ls (.ref s1 :: [])) (congrArg (fun v => F0 m 33 ls (va_rf v :: [])) (sf4_1 s0 s1 s2 s3)) ?_
          refine lv_astore (lv' := [(7, .ref s1), (6, .ref s2), (0, .ref h0), (1, .int 2), (2, .int a2), (3, .int 1), (4, .int a4), (5, .int a5)]) hx hb dX9_paste_33 hl (by decide) rfl (fun ls hl => ?_)
          refine lv_aload hx hb dX9_paste_35 (lv_at hl 1 rfl) ?_
          refine vp_callSi (W.runV (As := []) (rest := []) ⟨hx, hb, hml, hown, hts⟩ (kX3_stands l dC dI s2 n2) (cwV 0 hts gX9_paste__X3_stands_V270 rfl rfl rfl (by decide +kernel) ⟨lel 1 2 rfl, lel 20 43 rfl⟩) ⟨pw_fb, va_recv hK hP (ci := 2) (q0 := 4) rfl rfl, (pw_use hP hK hN [4] rfl [] rfl)⟩ rfl rfl hl.1 rfl (lv_room (Nat.le_of_ble_eq_true rfl)) dX9_paste_37 ⟨lel 0 0 rfl, lel 0 0 rfl⟩) (fun r_23 hr_23 => ?_)
          obtain rfl : r_23 = 0 := hr_23
          refine lv_if_eq (tgt := 51) hx hb dX9_paste_40 (by decide) (fun _ => ?_) (fun c_24 => absurd c_24 (by decide))
          refine lv_bipush (v := (-6)) hx hb dX9_paste_51 (by decide) ?_
          exact W.iret (v := (-6)) hx hb hr (fun t ht hW => ⟨(-6), rfl, (by decide), ht⟩) t_nil dX9_paste_53
        ·
          refine lv_aload_n hx hb dX9_paste_19 rfl (lv_at hl 0 rfl) ?_
          refine va_get (D := (dC, dI)) (ci := 7) (v := .ref sl) (C := RX9) (T := TX9) (N := 10) hx hb hts iX9_paste_X9 hown hK hP 0 rfl rfl 6 (by decide) (hts (.fieldLink RX9 50 "LuckyTicket" "slots" "[LLuckyTicket$Row;") (List.mem_of_getElem? (i := 6) rfl)) (fun _ h9 => h9) rfl dX9_paste_20 ?_
          refine lv_iload_n hx hb dX9_paste_23 rfl (lv_at hl 1 rfl) ?_
          refine va_aldq hx hb hK hP 1 0 rfl rfl (vp_in_lit (by decide)) dX9_paste_24 ?_
          refine W.eq (g2 := F0 m 25 ls (.ref s2 :: [])) (congrArg (fun v => F0 m 25 ls (va_rf v :: [])) (sf4_2 s0 s1 s2 s3)) ?_
          refine lv_astore (lv' := [(6, .ref s2), (0, .ref h0), (1, .int 2), (2, .int a2), (3, .int 2), (4, .int a4), (5, .int a5)]) hx hb dX9_paste_25 hl (by decide) rfl (fun ls hl => ?_)
          refine lv_aload_n hx hb dX9_paste_27 rfl (lv_at hl 1 rfl) ?_
          refine va_get (D := (dC, dI)) (ci := 7) (v := .ref sl) (C := RX9) (T := TX9) (N := 10) hx hb hts iX9_paste_X9 hown hK hP 0 rfl rfl 6 (by decide) (hts (.fieldLink RX9 50 "LuckyTicket" "slots" "[LLuckyTicket$Row;") (List.mem_of_getElem? (i := 6) rfl)) (fun _ h9 => h9) rfl dX9_paste_28 ?_
          refine lv_iload_n hx hb dX9_paste_31 rfl (lv_at hl 4 rfl) ?_
          refine va_aldq hx hb hK hP 1 0 rfl rfl (vp_in_lit (by decide)) dX9_paste_32 ?_
          refine W.eq (g2 := F0 m 33 ls (.ref s2 :: [])) (congrArg (fun v => F0 m 33 ls (va_rf v :: [])) (sf4_2 s0 s1 s2 s3)) ?_
          refine lv_astore (lv' := [(7, .ref s2), (6, .ref s2), (0, .ref h0), (1, .int 2), (2, .int a2), (3, .int 2), (4, .int a4), (5, .int a5)]) hx hb dX9_paste_33 hl (by decide) rfl (fun ls hl => ?_)
          refine lv_aload hx hb dX9_paste_35 (lv_at hl 1 rfl) ?_
          refine vp_callSi (W.runV (As := []) (rest := []) ⟨hx, hb, hml, hown, hts⟩ (kX3_stands l dC dI s2 n2) (cwV 0 hts gX9_paste__X3_stands_V270 rfl rfl rfl (by decide +kernel) ⟨lel 1 2 rfl, lel 20 43 rfl⟩) ⟨pw_fb, va_recv hK hP (ci := 2) (q0 := 4) rfl rfl, (pw_use hP hK hN [4] rfl [] rfl)⟩ rfl rfl hl.1 rfl (lv_room (Nat.le_of_ble_eq_true rfl)) dX9_paste_37 ⟨lel 0 0 rfl, lel 0 0 rfl⟩) (fun r_25 hr_25 => ?_)
          obtain rfl : r_25 = 0 := hr_25
          refine lv_if_eq (tgt := 51) hx hb dX9_paste_40 (by decide) (fun _ => ?_) (fun c_26 => absurd c_26 (by decide))
          refine lv_bipush (v := (-6)) hx hb dX9_paste_51 (by decide) ?_
          exact W.iret (v := (-6)) hx hb hr (fun t ht hW => ⟨(-6), rfl, (by decide), ht⟩) t_nil dX9_paste_53
        ·
          refine lv_aload_n hx hb dX9_paste_19 rfl (lv_at hl 0 rfl) ?_
          refine va_get (D := (dC, dI)) (ci := 7) (v := .ref sl) (C := RX9) (T := TX9) (N := 10) hx hb hts iX9_paste_X9 hown hK hP 0 rfl rfl 6 (by decide) (hts (.fieldLink RX9 50 "LuckyTicket" "slots" "[LLuckyTicket$Row;") (List.mem_of_getElem? (i := 6) rfl)) (fun _ h9 => h9) rfl dX9_paste_20 ?_
          refine lv_iload_n hx hb dX9_paste_23 rfl (lv_at hl 1 rfl) ?_
          refine va_aldq hx hb hK hP 1 0 rfl rfl (vp_in_lit (by decide)) dX9_paste_24 ?_
          refine W.eq (g2 := F0 m 25 ls (.ref s2 :: [])) (congrArg (fun v => F0 m 25 ls (va_rf v :: [])) (sf4_2 s0 s1 s2 s3)) ?_
          refine lv_astore (lv' := [(6, .ref s2), (0, .ref h0), (1, .int 2), (2, .int a2), (3, .int 3), (4, .int a4), (5, .int a5)]) hx hb dX9_paste_25 hl (by decide) rfl (fun ls hl => ?_)
          refine lv_aload_n hx hb dX9_paste_27 rfl (lv_at hl 1 rfl) ?_
          refine va_get (D := (dC, dI)) (ci := 7) (v := .ref sl) (C := RX9) (T := TX9) (N := 10) hx hb hts iX9_paste_X9 hown hK hP 0 rfl rfl 6 (by decide) (hts (.fieldLink RX9 50 "LuckyTicket" "slots" "[LLuckyTicket$Row;") (List.mem_of_getElem? (i := 6) rfl)) (fun _ h9 => h9) rfl dX9_paste_28 ?_
          refine lv_iload_n hx hb dX9_paste_31 rfl (lv_at hl 4 rfl) ?_
          refine va_aldq hx hb hK hP 1 0 rfl rfl (vp_in_lit (by decide)) dX9_paste_32 ?_
          refine W.eq (g2 := F0 m 33 ls (.ref s3 :: [])) (congrArg (fun v => F0 m 33 ls (va_rf v :: [])) (sf4_3 s0 s1 s2 s3)) ?_
          refine lv_astore (lv' := [(7, .ref s3), (6, .ref s2), (0, .ref h0), (1, .int 2), (2, .int a2), (3, .int 3), (4, .int a4), (5, .int a5)]) hx hb dX9_paste_33 hl (by decide) rfl (fun ls hl => ?_)
          refine lv_aload hx hb dX9_paste_35 (lv_at hl 1 rfl) ?_
          refine vp_callSi (W.runV (As := []) (rest := []) ⟨hx, hb, hml, hown, hts⟩ (kX3_stands l dC dI s2 n2) (cwV 0 hts gX9_paste__X3_stands_V270 rfl rfl rfl (by decide +kernel) ⟨lel 1 2 rfl, lel 20 43 rfl⟩) ⟨pw_fb, va_recv hK hP (ci := 2) (q0 := 4) rfl rfl, (pw_use hP hK hN [4] rfl [] rfl)⟩ rfl rfl hl.1 rfl (lv_room (Nat.le_of_ble_eq_true rfl)) dX9_paste_37 ⟨lel 0 0 rfl, lel 0 0 rfl⟩) (fun r_27 hr_27 => ?_)
          obtain rfl : r_27 = 0 := hr_27
          refine lv_if_eq (tgt := 51) hx hb dX9_paste_40 (by decide) (fun _ => ?_) (fun c_28 => absurd c_28 (by decide))
          refine lv_bipush (v := (-6)) hx hb dX9_paste_51 (by decide) ?_
          exact W.iret (v := (-6)) hx hb hr (fun t ht hW => ⟨(-6), rfl, (by decide), ht⟩) t_nil dX9_paste_53
      ·
        rcases wi_4 (fun e => c_4 (hr_3.trans e)) with rfl | rfl | rfl | rfl
        ·
          refine lv_aload_n hx hb dX9_paste_19 rfl (lv_at hl 0 rfl) ?_
          refine va_get (D := (dC, dI)) (ci := 7) (v := .ref sl) (C := RX9) (T := TX9) (N := 10) hx hb hts iX9_paste_X9 hown hK hP 0 rfl rfl 6 (by decide) (hts (.fieldLink RX9 50 "LuckyTicket" "slots" "[LLuckyTicket$Row;") (List.mem_of_getElem? (i := 6) rfl)) (fun _ h9 => h9) rfl dX9_paste_20 ?_
          refine lv_iload_n hx hb dX9_paste_23 rfl (lv_at hl 1 rfl) ?_
          refine va_aldq hx hb hK hP 1 0 rfl rfl (vp_in_lit (by decide)) dX9_paste_24 ?_
          refine W.eq (g2 := F0 m 25 ls (.ref s3 :: [])) (congrArg (fun v => F0 m 25 ls (va_rf v :: [])) (sf4_3 s0 s1 s2 s3)) ?_
          refine lv_astore (lv' := [(6, .ref s3), (0, .ref h0), (1, .int 3), (2, .int a2), (3, .int 0), (4, .int a4), (5, .int a5)]) hx hb dX9_paste_25 hl (by decide) rfl (fun ls hl => ?_)
          refine lv_aload_n hx hb dX9_paste_27 rfl (lv_at hl 1 rfl) ?_
          refine va_get (D := (dC, dI)) (ci := 7) (v := .ref sl) (C := RX9) (T := TX9) (N := 10) hx hb hts iX9_paste_X9 hown hK hP 0 rfl rfl 6 (by decide) (hts (.fieldLink RX9 50 "LuckyTicket" "slots" "[LLuckyTicket$Row;") (List.mem_of_getElem? (i := 6) rfl)) (fun _ h9 => h9) rfl dX9_paste_28 ?_
          refine lv_iload_n hx hb dX9_paste_31 rfl (lv_at hl 4 rfl) ?_
          refine va_aldq hx hb hK hP 1 0 rfl rfl (vp_in_lit (by decide)) dX9_paste_32 ?_
          refine W.eq (g2 := F0 m 33 ls (.ref s0 :: [])) (congrArg (fun v => F0 m 33 ls (va_rf v :: [])) (sf4_0 s0 s1 s2 s3)) ?_
          refine lv_astore (lv' := [(7, .ref s0), (6, .ref s3), (0, .ref h0), (1, .int 3), (2, .int a2), (3, .int 0), (4, .int a4), (5, .int a5)]) hx hb dX9_paste_33 hl (by decide) rfl (fun ls hl => ?_)
          refine lv_aload hx hb dX9_paste_35 (lv_at hl 1 rfl) ?_
          refine vp_callSi (W.runV (As := []) (rest := []) ⟨hx, hb, hml, hown, hts⟩ (kX3_stands l dC dI s3 n3) (cwV 0 hts gX9_paste__X3_stands_V270 rfl rfl rfl (by decide +kernel) ⟨lel 1 2 rfl, lel 20 43 rfl⟩) ⟨pw_fb, va_recv hK hP (ci := 2) (q0 := 5) rfl rfl, (pw_use hP hK hN [5] rfl [] rfl)⟩ rfl rfl hl.1 rfl (lv_room (Nat.le_of_ble_eq_true rfl)) dX9_paste_37 ⟨lel 0 0 rfl, lel 0 0 rfl⟩) (fun r_29 hr_29 => ?_)
          obtain rfl : r_29 = 0 := hr_29
          refine lv_if_eq (tgt := 51) hx hb dX9_paste_40 (by decide) (fun _ => ?_) (fun c_30 => absurd c_30 (by decide))
          refine lv_bipush (v := (-6)) hx hb dX9_paste_51 (by decide) ?_
          exact W.iret (v := (-6)) hx hb hr (fun t ht hW => ⟨(-6), rfl, (by decide), ht⟩) t_nil dX9_paste_53
        ·
          refine lv_aload_n hx hb dX9_paste_19 rfl (lv_at hl 0 rfl) ?_
          refine va_get (D := (dC, dI)) (ci := 7) (v := .ref sl) (C := RX9) (T := TX9) (N := 10) hx hb hts iX9_paste_X9 hown hK hP 0 rfl rfl 6 (by decide) (hts (.fieldLink RX9 50 "LuckyTicket" "slots" "[LLuckyTicket$Row;") (List.mem_of_getElem? (i := 6) rfl)) (fun _ h9 => h9) rfl dX9_paste_20 ?_
          refine lv_iload_n hx hb dX9_paste_23 rfl (lv_at hl 1 rfl) ?_
          refine va_aldq hx hb hK hP 1 0 rfl rfl (vp_in_lit (by decide)) dX9_paste_24 ?_
          refine W.eq (g2 := F0 m 25 ls (.ref s3 :: [])) (congrArg (fun v => F0 m 25 ls (va_rf v :: [])) (sf4_3 s0 s1 s2 s3)) ?_
          refine lv_astore (lv' := [(6, .ref s3), (0, .ref h0), (1, .int 3), (2, .int a2), (3, .int 1), (4, .int a4), (5, .int a5)]) hx hb dX9_paste_25 hl (by decide) rfl (fun ls hl => ?_)
          refine lv_aload_n hx hb dX9_paste_27 rfl (lv_at hl 1 rfl) ?_
          refine va_get (D := (dC, dI)) (ci := 7) (v := .ref sl) (C := RX9) (T := TX9) (N := 10) hx hb hts iX9_paste_X9 hown hK hP 0 rfl rfl 6 (by decide) (hts (.fieldLink RX9 50 "LuckyTicket" "slots" "[LLuckyTicket$Row;") (List.mem_of_getElem? (i := 6) rfl)) (fun _ h9 => h9) rfl dX9_paste_28 ?_
          refine lv_iload_n hx hb dX9_paste_31 rfl (lv_at hl 4 rfl) ?_
          refine va_aldq hx hb hK hP 1 0 rfl rfl (vp_in_lit (by decide)) dX9_paste_32 ?_
          refine W.eq (g2 := F0 m 33 ls (.ref s1 :: [])) (congrArg (fun v => F0 m 33 ls (va_rf v :: [])) (sf4_1 s0 s1 s2 s3)) ?_
          refine lv_astore (lv' := [(7, .ref s1), (6, .ref s3), (0, .ref h0), (1, .int 3), (2, .int a2), (3, .int 1), (4, .int a4), (5, .int a5)]) hx hb dX9_paste_33 hl (by decide) rfl (fun ls hl => ?_)
          refine lv_aload hx hb dX9_paste_35 (lv_at hl 1 rfl) ?_
          refine vp_callSi (W.runV (As := []) (rest := []) ⟨hx, hb, hml, hown, hts⟩ (kX3_stands l dC dI s3 n3) (cwV 0 hts gX9_paste__X3_stands_V270 rfl rfl rfl (by decide +kernel) ⟨lel 1 2 rfl, lel 20 43 rfl⟩) ⟨pw_fb, va_recv hK hP (ci := 2) (q0 := 5) rfl rfl, (pw_use hP hK hN [5] rfl [] rfl)⟩ rfl rfl hl.1 rfl (lv_room (Nat.le_of_ble_eq_true rfl)) dX9_paste_37 ⟨lel 0 0 rfl, lel 0 0 rfl⟩) (fun r_31 hr_31 => ?_)
          obtain rfl : r_31 = 0 := hr_31
          refine lv_if_eq (tgt := 51) hx hb dX9_paste_40 (by decide) (fun _ => ?_) (fun c_32 => absurd c_32 (by decide))
          refine lv_bipush (v := (-6)) hx hb dX9_paste_51 (by decide) ?_
          exact W.iret (v := (-6)) hx hb hr (fun t ht hW => ⟨(-6), rfl, (by decide), ht⟩) t_nil dX9_paste_53
        ·
          refine lv_aload_n hx hb dX9_paste_19 rfl (lv_at hl 0 rfl) ?_
          refine va_get (D := (dC, dI)) (ci := 7) (v := .ref sl) (C := RX9) (T := TX9) (N := 10) hx hb hts iX9_paste_X9 hown hK hP 0 rfl rfl 6 (by decide) (hts (.fieldLink RX9 50 "LuckyTicket" "slots" "[LLuckyTicket$Row;") (List.mem_of_getElem? (i := 6) rfl)) (fun _ h9 => h9) rfl dX9_paste_20 ?_
          refine lv_iload_n hx hb dX9_paste_23 rfl (lv_at hl 1 rfl) ?_
          refine va_aldq hx hb hK hP 1 0 rfl rfl (vp_in_lit (by decide)) dX9_paste_24 ?_
          refine W.eq (g2 := F0 m 25 ls (.ref s3 :: [])) (congrArg (fun v => F0 m 25 ls (va_rf v :: [])) (sf4_3 s0 s1 s2 s3)) ?_
          refine lv_astore (lv' := [(6, .ref s3), (0, .ref h0), (1, .int 3), (2, .int a2), (3, .int 2), (4, .int a4), (5, .int a5)]) hx hb dX9_paste_25 hl (by decide) rfl (fun ls hl => ?_)
          refine lv_aload_n hx hb dX9_paste_27 rfl (lv_at hl 1 rfl) ?_
          refine va_get (D := (dC, dI)) (ci := 7) (v := .ref sl) (C := RX9) (T := TX9) (N := 10) hx hb hts iX9_paste_X9 hown hK hP 0 rfl rfl 6 (by decide) (hts (.fieldLink RX9 50 "LuckyTicket" "slots" "[LLuckyTicket$Row;") (List.mem_of_getElem? (i := 6) rfl)) (fun _ h9 => h9) rfl dX9_paste_28 ?_
          refine lv_iload_n hx hb dX9_paste_31 rfl (lv_at hl 4 rfl) ?_
          refine va_aldq hx hb hK hP 1 0 rfl rfl (vp_in_lit (by decide)) dX9_paste_32 ?_
          refine W.eq (g2 := F0 m 33 ls (.ref s2 :: [])) (congrArg (fun v => F0 m 33 ls (va_rf v :: [])) (sf4_2 s0 s1 s2 s3)) ?_
          refine lv_astore (lv' := [(7, .ref s2), (6, .ref s3), (0, .ref h0), (1, .int 3), (2, .int a2), (3, .int 2), (4, .int a4), (5, .int a5)]) hx hb dX9_paste_33 hl (by decide) rfl (fun ls hl => ?_)
          refine lv_aload hx hb dX9_paste_35 (lv_at hl 1 rfl) ?_
          refine vp_callSi (W.runV (As := []) (rest := []) ⟨hx, hb, hml, hown, hts⟩ (kX3_stands l dC dI s3 n3) (cwV 0 hts gX9_paste__X3_stands_V270 rfl rfl rfl (by decide +kernel) ⟨lel 1 2 rfl, lel 20 43 rfl⟩) ⟨pw_fb, va_recv hK hP (ci := 2) (q0 := 5) rfl rfl, (pw_use hP hK hN [5] rfl [] rfl)⟩ rfl rfl hl.1 rfl (lv_room (Nat.le_of_ble_eq_true rfl)) dX9_paste_37 ⟨lel 0 0 rfl, lel 0 0 rfl⟩) (fun r_33 hr_33 => ?_)
          obtain rfl : r_33 = 0 := hr_33
          refine lv_if_eq (tgt := 51) hx hb dX9_paste_40 (by decide) (fun _ => ?_) (fun c_34 => absurd c_34 (by decide))
          refine lv_bipush (v := (-6)) hx hb dX9_paste_51 (by decide) ?_
          exact W.iret (v := (-6)) hx hb hr (fun t ht hW => ⟨(-6), rfl, (by decide), ht⟩) t_nil dX9_paste_53
        ·
          refine lv_aload_n hx hb dX9_paste_19 rfl (lv_at hl 0 rfl) ?_
          refine va_get (D := (dC, dI)) (ci := 7) (v := .ref sl) (C := RX9) (T := TX9) (N := 10) hx hb hts iX9_paste_X9 hown hK hP 0 rfl rfl 6 (by decide) (hts (.fieldLink RX9 50 "LuckyTicket" "slots" "[LLuckyTicket$Row;") (List.mem_of_getElem? (i := 6) rfl)) (fun _ h9 => h9) rfl dX9_paste_20 ?_
          refine lv_iload_n hx hb dX9_paste_23 rfl (lv_at hl 1 rfl) ?_
          refine va_aldq hx hb hK hP 1 0 rfl rfl (vp_in_lit (by decide)) dX9_paste_24 ?_
          refine W.eq (g2 := F0 m 25 ls (.ref s3 :: [])) (congrArg (fun v => F0 m 25 ls (va_rf v :: [])) (sf4_3 s0 s1 s2 s3)) ?_
          refine lv_astore (lv' := [(6, .ref s3), (0, .ref h0), (1, .int 3), (2, .int a2), (3, .int 3), (4, .int a4), (5, .int a5)]) hx hb dX9_paste_25 hl (by decide) rfl (fun ls hl => ?_)
          refine lv_aload_n hx hb dX9_paste_27 rfl (lv_at hl 1 rfl) ?_
          refine va_get (D := (dC, dI)) (ci := 7) (v := .ref sl) (C := RX9) (T := TX9) (N := 10) hx hb hts iX9_paste_X9 hown hK hP 0 rfl rfl 6 (by decide) (hts (.fieldLink RX9 50 "LuckyTicket" "slots" "[LLuckyTicket$Row;") (List.mem_of_getElem? (i := 6) rfl)) (fun _ h9 => h9) rfl dX9_paste_28 ?_
          refine lv_iload_n hx hb dX9_paste_31 rfl (lv_at hl 4 rfl) ?_
          refine va_aldq hx hb hK hP 1 0 rfl rfl (vp_in_lit (by decide)) dX9_paste_32 ?_
          refine W.eq (g2 := F0 m 33 ls (.ref s3 :: [])) (congrArg (fun v => F0 m 33 ls (va_rf v :: [])) (sf4_3 s0 s1 s2 s3)) ?_
          refine lv_astore (lv' := [(7, .ref s3), (6, .ref s3), (0, .ref h0), (1, .int 3), (2, .int a2), (3, .int 3), (4, .int a4), (5, .int a5)]) hx hb dX9_paste_33 hl (by decide) rfl (fun ls hl => ?_)
          refine lv_aload hx hb dX9_paste_35 (lv_at hl 1 rfl) ?_
          refine vp_callSi (W.runV (As := []) (rest := []) ⟨hx, hb, hml, hown, hts⟩ (kX3_stands l dC dI s3 n3) (cwV 0 hts gX9_paste__X3_stands_V270 rfl rfl rfl (by decide +kernel) ⟨lel 1 2 rfl, lel 20 43 rfl⟩) ⟨pw_fb, va_recv hK hP (ci := 2) (q0 := 5) rfl rfl, (pw_use hP hK hN [5] rfl [] rfl)⟩ rfl rfl hl.1 rfl (lv_room (Nat.le_of_ble_eq_true rfl)) dX9_paste_37 ⟨lel 0 0 rfl, lel 0 0 rfl⟩) (fun r_35 hr_35 => ?_)
          obtain rfl : r_35 = 0 := hr_35
          refine lv_if_eq (tgt := 51) hx hb dX9_paste_40 (by decide) (fun _ => ?_) (fun c_36 => absurd c_36 (by decide))
          refine lv_bipush (v := (-6)) hx hb dX9_paste_51 (by decide) ?_
          exact W.iret (v := (-6)) hx hb hr (fun t ht hW => ⟨(-6), rfl, (by decide), ht⟩) t_nil dX9_paste_53
    ·
      refine lv_bipush (v := (-2)) hx hb dX9_paste_16 (by decide) ?_
      exact W.iret (v := (-2)) hx hb hr (fun t ht hW => ⟨(-2), rfl, (if_pos (Or.inr (hr_3.symm.trans c_4))).symm, ht⟩) t_nil dX9_paste_18
theorem dX10_paste_0 : decode cX10_paste 0 = .ok (.iload_n 1, 1) := by decide +kernel
theorem dX10_paste_1 : decode cX10_paste 1 = .ok (.invokestatic 369, 3) := by decide +kernel
theorem dX10_paste_4 : decode cX10_paste 4 = .ok (.ifCond .eq 10, 3) := by decide +kernel
theorem dX10_paste_7 : decode cX10_paste 7 = .ok (.iload_n 3, 1) := by decide +kernel
theorem dX10_paste_8 : decode cX10_paste 8 = .ok (.invokestatic 369, 3) := by decide +kernel
theorem dX10_paste_11 : decode cX10_paste 11 = .ok (.ifCond .ne 6, 3) := by decide +kernel
theorem dX10_paste_14 : decode cX10_paste 14 = .ok (.bipush (-2), 2) := by decide +kernel
theorem dX10_paste_16 : decode cX10_paste 16 = .ok (.ireturn, 1) := by decide +kernel
theorem dX10_paste_17 : decode cX10_paste 17 = .ok (.aload_n 0, 1) := by decide +kernel
theorem dX10_paste_18 : decode cX10_paste 18 = .ok (.getfield 65, 3) := by decide +kernel
theorem dX10_paste_21 : decode cX10_paste 21 = .ok (.iload_n 1, 1) := by decide +kernel
theorem dX10_paste_22 : decode cX10_paste 22 = .ok (.iaload, 1) := by decide +kernel
theorem dX10_paste_23 : decode cX10_paste 23 = .ok (.iconst (-1), 1) := by decide +kernel
theorem dX10_paste_24 : decode cX10_paste 24 = .ok (.if_icmp .eq 13, 3) := by decide +kernel
theorem dX10_paste_37 : decode cX10_paste 37 = .ok (.bipush (-6), 2) := by decide +kernel
theorem dX10_paste_39 : decode cX10_paste 39 = .ok (.ireturn, 1) := by decide +kernel
def uX10_paste : List Cond := .code yX10_paste cX10_paste 7 (some .int) :: ([.methodLink RX10 369 yX10_isSlot, .static yX10_isSlot, .initialized RX10, .code yX10_isSlot cX10_isSlot 1 (some .boolean), .constantLong RX10 375 (3), .methodLink RX10 82 yX10_in, .static yX10_in, .code yX10_in cX10_in 6 (some .boolean), .fieldLink RX10 65 "LuckyTicketModel" "many" "[I"] ++ wsX100)
theorem iX10_paste_X10 : ∀ w ∈ wsX100, w ∈ uX10_paste := fun _ h => List.mem_cons_of_mem _ (List.mem_append_right _ h)
set_option maxRecDepth 20000 in
theorem gX10_paste__X10_isSlot_S369 : GoodIn uX10_paste (va_wsS RX10 369 yX10_isSlot uX10_isSlot) := goodIn_p _ [4, 8] rfl (by decide +kernel)
set_option maxHeartbeats 4000000 in
set_option maxRecDepth 100000 in
theorem kX10_paste (l : Launch) (dC : Nat → ClassId) (dI : Nat → Nat → Nat) (h0 : Nat) (m_world : Nat) (m_images : Nat) (m_hasImage : Nat) (m_luck : Nat) (m_tape : Nat) (m_five : Nat) (m_fresh : Nat) (m_waits : Nat) (m_figures : Nat) (m_pile : Nat) (m_times : Nat) (m_far : Nat) (m_queue : Nat) (m_months : Nat) (m_ways : Nat) (m_waysOn : Nat) (m_many : Nat) (m_width : Nat) (m_numbers : Nat) (m_moving : Nat) (cI : ClassId) (a1 : Int32) (a2 : Int32) (a3 : Int32) (a4 : Int32) (a5 : Int32) : Met l yX10_paste uX10_paste ({ frames := 2, cells := 0, slots := 0, locals := 45 }) (va_Pc [.ref h0, .int a1, .int a2, .int a3, .int a4, .int a5] (pw (dC, dI) vwCl [(h0, .inr (8, [.int 0, .ref m_world, .ref m_images, .ref m_hasImage, .ref m_luck, .ref m_tape, .int 0, .ref m_five, .int 0, .int 0, .int 0, .int 0, .int 0, .int 0, .int (-1), .ref m_fresh, .ref m_waits, .int 0, .int 0, .int 0, .ref m_figures, .ref m_pile, .long 0, .ref m_times, .ref m_far, .ref m_queue, .ref m_months, .ref m_ways, .ref m_waysOn, .ref m_many, .ref m_width, .ref m_numbers, .ref m_moving])), (m_many, .inl (cI, 4, .inl manyF))] [(cI, .int)])) (vp_Si (fun r => r = p2 a1 a3)) 0 0 (fun _ => False) := by
  refine Met.ofW (cc := cX10_paste) (maxL := 7) (ret := (some .int)) (by decide) rfl ?_
  intro p e s m args below meth c s₁ B hml hv
  obtain ⟨rfl, hP, hK, hN⟩ := hv
  have hx := B.exec
  have hb := B.bytes
  have hr := B.returns
  have hts := atoms_spec (ws := uX10_paste) B.pre
  have hown : s.vm.findClass RX10 = some m.cls := findClass_of_methodNamed B.named
  have hlocks := B.notSynchronized
  have hl := lv_entry ([.ref h0, .int a1, .int a2, .int a3, .int a4, .int a5]) (n := 7) (Nat.le_of_ble_eq_true rfl)
  rw [lg_entry_eq]
  generalize (lg_sl ([.ref h0, .int a1, .int a2, .int a3, .int a4, .int a5]) ++ List.replicate (7 - (lg_sl ([.ref h0, .int a1, .int a2, .int a3, .int a4, .int a5])).length) Slot.unset).toArray = ls at hl ⊢
  have hl : lv_has ls 7 [(0, .ref h0), (1, .int a1), (2, .int a2), (3, .int a3), (4, .int a4), (5, .int a5)] := hl
  refine lv_iload_n hx hb dX10_paste_0 rfl (lv_at hl 1 rfl) ?_
  refine vp_callSi (W.runS (As := [.int a1]) (rest := []) ⟨hx, hb, hml, hown, hts⟩ (kX10_isSlot l dC dI a1) (va_cwS 1 hts gX10_paste__X10_isSlot_S369 rfl rfl rfl (by decide +kernel) ⟨lel 2 2 rfl, lel 45 45 rfl⟩) ⟨pn_fb, pn_use⟩ rfl rfl hl.1 rfl (lv_room (Nat.le_of_ble_eq_true rfl)) dX10_paste_1 ⟨lel 0 0 rfl, lel 0 0 rfl⟩) (fun r_1 hr_1 => ?_)
  refine lv_if_eq (tgt := 14) hx hb dX10_paste_4 (by decide) (fun c_2 => ?_) (fun c_2 => ?_)
  ·
    refine lv_bipush (v := (-2)) hx hb dX10_paste_14 (by decide) ?_
    exact W.iret (v := (-2)) hx hb hr (fun t ht hW => ⟨(-2), rfl, (if_pos (Or.inl (hr_1.symm.trans c_2))).symm, ht⟩) t_nil dX10_paste_16
  ·
    refine lv_iload_n hx hb dX10_paste_7 rfl (lv_at hl 3 rfl) ?_
    refine vp_callSi (W.runS (As := [.int a3]) (rest := []) ⟨hx, hb, hml, hown, hts⟩ (kX10_isSlot l dC dI a3) (va_cwS 1 hts gX10_paste__X10_isSlot_S369 rfl rfl rfl (by decide +kernel) ⟨lel 2 2 rfl, lel 45 45 rfl⟩) ⟨pn_fb, pn_use⟩ rfl rfl hl.1 rfl (lv_room (Nat.le_of_ble_eq_true rfl)) dX10_paste_8 ⟨lel 0 0 rfl, lel 0 0 rfl⟩) (fun r_3 hr_3 => ?_)
    refine lv_if_ne (tgt := 17) hx hb dX10_paste_11 (by decide) (fun c_4 => ?_) (fun c_4 => ?_)
    ·
      rcases wi_4 (fun e => c_2 (hr_1.trans e)) with rfl | rfl | rfl | rfl
      ·
        rcases wi_4 (fun e => c_4 (hr_3.trans e)) with rfl | rfl | rfl | rfl
        ·
          refine lv_aload_n hx hb dX10_paste_17 rfl (lv_at hl 0 rfl) ?_
          refine va_get (D := (dC, dI)) (ci := 8) (v := .ref m_many) (C := RX10) (T := TX10) (N := 33) hx hb hts iX10_paste_X10 hown hK hP 0 rfl rfl 29 (by decide) (hts (.fieldLink RX10 65 "LuckyTicketModel" "many" "[I") (List.mem_of_getElem? (i := 9) rfl)) (fun _ h9 => h9) rfl dX10_paste_18 ?_
          refine lv_iload_n hx hb dX10_paste_21 rfl (lv_at hl 1 rfl) ?_
          refine va_iald hx hb hK hP 1 0 rfl rfl (vp_in_lit (by decide)) dX10_paste_22 ?_
          refine lv_topi (fun z_5 ez_5 => ?_)
          obtain rfl : z_5 = (-1) := ez_5.trans (by decide)
          refine lv_iconst (v := (-1)) hx hb dX10_paste_23 (by decide) ?_
          refine lv_icmp_eq (tgt := 37) hx hb dX10_paste_24 (by decide) (fun _ => ?_) (fun c_6 => absurd c_6 (by decide))
          refine lv_bipush (v := (-6)) hx hb dX10_paste_37 (by decide) ?_
          exact W.iret (v := (-6)) hx hb hr (fun t ht hW => ⟨(-6), rfl, (by decide), ht⟩) t_nil dX10_paste_39
        ·
          refine lv_aload_n hx hb dX10_paste_17 rfl (lv_at hl 0 rfl) ?_
          refine va_get (D := (dC, dI)) (ci := 8) (v := .ref m_many) (C := RX10) (T := TX10) (N := 33) hx hb hts iX10_paste_X10 hown hK hP 0 rfl rfl 29 (by decide) (hts (.fieldLink RX10 65 "LuckyTicketModel" "many" "[I") (List.mem_of_getElem? (i := 9) rfl)) (fun _ h9 => h9) rfl dX10_paste_18 ?_
          refine lv_iload_n hx hb dX10_paste_21 rfl (lv_at hl 1 rfl) ?_
          refine va_iald hx hb hK hP 1 0 rfl rfl (vp_in_lit (by decide)) dX10_paste_22 ?_
          refine lv_topi (fun z_7 ez_7 => ?_)
          obtain rfl : z_7 = (-1) := ez_7.trans (by decide)
          refine lv_iconst (v := (-1)) hx hb dX10_paste_23 (by decide) ?_
          refine lv_icmp_eq (tgt := 37) hx hb dX10_paste_24 (by decide) (fun _ => ?_) (fun c_8 => absurd c_8 (by decide))
          refine lv_bipush (v := (-6)) hx hb dX10_paste_37 (by decide) ?_
          exact W.iret (v := (-6)) hx hb hr (fun t ht hW => ⟨(-6), rfl, (by decide), ht⟩) t_nil dX10_paste_39
        ·
          refine lv_aload_n hx hb dX10_paste_17 rfl (lv_at hl 0 rfl) ?_
          refine va_get (D := (dC, dI)) (ci := 8) (v := .ref m_many) (C := RX10) (T := TX10) (N := 33) hx hb hts iX10_paste_X10 hown hK hP 0 rfl rfl 29 (by decide) (hts (.fieldLink RX10 65 "LuckyTicketModel" "many" "[I") (List.mem_of_getElem? (i := 9) rfl)) (fun _ h9 => h9) rfl dX10_paste_18 ?_
          refine lv_iload_n hx hb dX10_paste_21 rfl (lv_at hl 1 rfl) ?_
          refine va_iald hx hb hK hP 1 0 rfl rfl (vp_in_lit (by decide)) dX10_paste_22 ?_
          refine lv_topi (fun z_9 ez_9 => ?_)
          obtain rfl : z_9 = (-1) := ez_9.trans (by decide)
          refine lv_iconst (v := (-1)) hx hb dX10_paste_23 (by decide) ?_
          refine lv_icmp_eq (tgt := 37) hx hb dX10_paste_24 (by decide) (fun _ => ?_) (fun c_10 => absurd c_10 (by decide))
          refine lv_bipush (v := (-6)) hx hb dX10_paste_37 (by decide) ?_
          exact W.iret (v := (-6)) hx hb hr (fun t ht hW => ⟨(-6), rfl, (by decide), ht⟩) t_nil dX10_paste_39
        ·
          refine lv_aload_n hx hb dX10_paste_17 rfl (lv_at hl 0 rfl) ?_
          refine va_get (D := (dC, dI)) (ci := 8) (v := .ref m_many) (C := RX10) (T := TX10) (N := 33) hx hb hts iX10_paste_X10 hown hK hP 0 rfl rfl 29 (by decide) (hts (.fieldLink RX10 65 "LuckyTicketModel" "many" "[I") (List.mem_of_getElem? (i := 9) rfl)) (fun _ h9 => h9) rfl dX10_paste_18 ?_
          refine lv_iload_n hx hb dX10_paste_21 rfl (lv_at hl 1 rfl) ?_
          refine va_iald hx hb hK hP 1 0 rfl rfl (vp_in_lit (by decide)) dX10_paste_22 ?_
          refine lv_topi (fun z_11 ez_11 => ?_)
          obtain rfl : z_11 = (-1) := ez_11.trans (by decide)
          refine lv_iconst (v := (-1)) hx hb dX10_paste_23 (by decide) ?_
          refine lv_icmp_eq (tgt := 37) hx hb dX10_paste_24 (by decide) (fun _ => ?_) (fun c_12 => absurd c_12 (by decide))
          refine lv_bipush (v := (-6)) hx hb dX10_paste_37 (by decide) ?_
          exact W.iret (v := (-6)) hx hb hr (fun t ht hW => ⟨(-6), rfl, (by decide), ht⟩) t_nil dX10_paste_39
      ·
        rcases wi_4 (fun e => c_4 (hr_3.trans e)) with rfl | rfl | rfl | rfl
        ·
          refine lv_aload_n hx hb dX10_paste_17 rfl (lv_at hl 0 rfl) ?_
          refine va_get (D := (dC, dI)) (ci := 8) (v := .ref m_many) (C := RX10) (T := TX10) (N := 33) hx hb hts iX10_paste_X10 hown hK hP 0 rfl rfl 29 (by decide) (hts (.fieldLink RX10 65 "LuckyTicketModel" "many" "[I") (List.mem_of_getElem? (i := 9) rfl)) (fun _ h9 => h9) rfl dX10_paste_18 ?_
          refine lv_iload_n hx hb dX10_paste_21 rfl (lv_at hl 1 rfl) ?_
          refine va_iald hx hb hK hP 1 0 rfl rfl (vp_in_lit (by decide)) dX10_paste_22 ?_
          refine lv_topi (fun z_13 ez_13 => ?_)
          obtain rfl : z_13 = (-1) := ez_13.trans (by decide)
          refine lv_iconst (v := (-1)) hx hb dX10_paste_23 (by decide) ?_
          refine lv_icmp_eq (tgt := 37) hx hb dX10_paste_24 (by decide) (fun _ => ?_) (fun c_14 => absurd c_14 (by decide))
          refine lv_bipush (v := (-6)) hx hb dX10_paste_37 (by decide) ?_
          exact W.iret (v := (-6)) hx hb hr (fun t ht hW => ⟨(-6), rfl, (by decide), ht⟩) t_nil dX10_paste_39
        ·
          refine lv_aload_n hx hb dX10_paste_17 rfl (lv_at hl 0 rfl) ?_
          refine va_get (D := (dC, dI)) (ci := 8) (v := .ref m_many) (C := RX10) (T := TX10) (N := 33) hx hb hts iX10_paste_X10 hown hK hP 0 rfl rfl 29 (by decide) (hts (.fieldLink RX10 65 "LuckyTicketModel" "many" "[I") (List.mem_of_getElem? (i := 9) rfl)) (fun _ h9 => h9) rfl dX10_paste_18 ?_
          refine lv_iload_n hx hb dX10_paste_21 rfl (lv_at hl 1 rfl) ?_
          refine va_iald hx hb hK hP 1 0 rfl rfl (vp_in_lit (by decide)) dX10_paste_22 ?_
          refine lv_topi (fun z_15 ez_15 => ?_)
          obtain rfl : z_15 = (-1) := ez_15.trans (by decide)
          refine lv_iconst (v := (-1)) hx hb dX10_paste_23 (by decide) ?_
          refine lv_icmp_eq (tgt := 37) hx hb dX10_paste_24 (by decide) (fun _ => ?_) (fun c_16 => absurd c_16 (by decide))
          refine lv_bipush (v := (-6)) hx hb dX10_paste_37 (by decide) ?_
          exact W.iret (v := (-6)) hx hb hr (fun t ht hW => ⟨(-6), rfl, (by decide), ht⟩) t_nil dX10_paste_39
        ·
          refine lv_aload_n hx hb dX10_paste_17 rfl (lv_at hl 0 rfl) ?_
          refine va_get (D := (dC, dI)) (ci := 8) (v := .ref m_many) (C := RX10) (T := TX10) (N := 33) hx hb hts iX10_paste_X10 hown hK hP 0 rfl rfl 29 (by decide) (hts (.fieldLink RX10 65 "LuckyTicketModel" "many" "[I") (List.mem_of_getElem? (i := 9) rfl)) (fun _ h9 => h9) rfl dX10_paste_18 ?_
          refine lv_iload_n hx hb dX10_paste_21 rfl (lv_at hl 1 rfl) ?_
          refine va_iald hx hb hK hP 1 0 rfl rfl (vp_in_lit (by decide)) dX10_paste_22 ?_
          refine lv_topi (fun z_17 ez_17 => ?_)
          obtain rfl : z_17 = (-1) := ez_17.trans (by decide)
          refine lv_iconst (v := (-1)) hx hb dX10_paste_23 (by decide) ?_
          refine lv_icmp_eq (tgt := 37) hx hb dX10_paste_24 (by decide) (fun _ => ?_) (fun c_18 => absurd c_18 (by decide))
          refine lv_bipush (v := (-6)) hx hb dX10_paste_37 (by decide) ?_
          exact W.iret (v := (-6)) hx hb hr (fun t ht hW => ⟨(-6), rfl, (by decide), ht⟩) t_nil dX10_paste_39
        ·
          refine lv_aload_n hx hb dX10_paste_17 rfl (lv_at hl 0 rfl) ?_
          refine va_get (D := (dC, dI)) (ci := 8) (v := .ref m_many) (C := RX10) (T := TX10) (N := 33) hx hb hts iX10_paste_X10 hown hK hP 0 rfl rfl 29 (by decide) (hts (.fieldLink RX10 65 "LuckyTicketModel" "many" "[I") (List.mem_of_getElem? (i := 9) rfl)) (fun _ h9 => h9) rfl dX10_paste_18 ?_
          refine lv_iload_n hx hb dX10_paste_21 rfl (lv_at hl 1 rfl) ?_
          refine va_iald hx hb hK hP 1 0 rfl rfl (vp_in_lit (by decide)) dX10_paste_22 ?_
          refine lv_topi (fun z_19 ez_19 => ?_)
          obtain rfl : z_19 = (-1) := ez_19.trans (by decide)
          refine lv_iconst (v := (-1)) hx hb dX10_paste_23 (by decide) ?_
          refine lv_icmp_eq (tgt := 37) hx hb dX10_paste_24 (by decide) (fun _ => ?_) (fun c_20 => absurd c_20 (by decide))
          refine lv_bipush (v := (-6)) hx hb dX10_paste_37 (by decide) ?_
          exact W.iret (v := (-6)) hx hb hr (fun t ht hW => ⟨(-6), rfl, (by decide), ht⟩) t_nil dX10_paste_39
      ·
        rcases wi_4 (fun e => c_4 (hr_3.trans e)) with rfl | rfl | rfl | rfl
        ·
          refine lv_aload_n hx hb dX10_paste_17 rfl (lv_at hl 0 rfl) ?_
          refine va_get (D := (dC, dI)) (ci := 8) (v := .ref m_many) (C := RX10) (T := TX10) (N := 33) hx hb hts iX10_paste_X10 hown hK hP 0 rfl rfl 29 (by decide) (hts (.fieldLink RX10 65 "LuckyTicketModel" "many" "[I") (List.mem_of_getElem? (i := 9) rfl)) (fun _ h9 => h9) rfl dX10_paste_18 ?_
          refine lv_iload_n hx hb dX10_paste_21 rfl (lv_at hl 1 rfl) ?_
          refine va_iald hx hb hK hP 1 0 rfl rfl (vp_in_lit (by decide)) dX10_paste_22 ?_
          refine lv_topi (fun z_21 ez_21 => ?_)
          obtain rfl : z_21 = (-1) := ez_21.trans (by decide)
          refine lv_iconst (v := (-1)) hx hb dX10_paste_23 (by decide) ?_
          refine lv_icmp_eq (tgt := 37) hx hb dX10_paste_24 (by decide) (fun _ => ?_) (fun c_22 => absurd c_22 (by decide))
          refine lv_bipush (v := (-6)) hx hb dX10_paste_37 (by decide) ?_
          exact W.iret (v := (-6)) hx hb hr (fun t ht hW => ⟨(-6), rfl, (by decide), ht⟩) t_nil dX10_paste_39
        ·
          refine lv_aload_n hx hb dX10_paste_17 rfl (lv_at hl 0 rfl) ?_
          refine va_get (D := (dC, dI)) (ci := 8) (v := .ref m_many) (C := RX10) (T := TX10) (N := 33) hx hb hts iX10_paste_X10 hown hK hP 0 rfl rfl 29 (by decide) (hts (.fieldLink RX10 65 "LuckyTicketModel" "many" "[I") (List.mem_of_getElem? (i := 9) rfl)) (fun _ h9 => h9) rfl dX10_paste_18 ?_
          refine lv_iload_n hx hb dX10_paste_21 rfl (lv_at hl 1 rfl) ?_
          refine va_iald hx hb hK hP 1 0 rfl rfl (vp_in_lit (by decide)) dX10_paste_22 ?_
          refine lv_topi (fun z_23 ez_23 => ?_)
          obtain rfl : z_23 = (-1) := ez_23.trans (by decide)
          refine lv_iconst (v := (-1)) hx hb dX10_paste_23 (by decide) ?_
          refine lv_icmp_eq (tgt := 37) hx hb dX10_paste_24 (by decide) (fun _ => ?_) (fun c_24 => absurd c_24 (by decide))
          refine lv_bipush (v := (-6)) hx hb dX10_paste_37 (by decide) ?_
          exact W.iret (v := (-6)) hx hb hr (fun t ht hW => ⟨(-6), rfl, (by decide), ht⟩) t_nil dX10_paste_39
        ·
          refine lv_aload_n hx hb dX10_paste_17 rfl (lv_at hl 0 rfl) ?_
          refine va_get (D := (dC, dI)) (ci := 8) (v := .ref m_many) (C := RX10) (T := TX10) (N := 33) hx hb hts iX10_paste_X10 hown hK hP 0 rfl rfl 29 (by decide) (hts (.fieldLink RX10 65 "LuckyTicketModel" "many" "[I") (List.mem_of_getElem? (i := 9) rfl)) (fun _ h9 => h9) rfl dX10_paste_18 ?_
          refine lv_iload_n hx hb dX10_paste_21 rfl (lv_at hl 1 rfl) ?_
          refine va_iald hx hb hK hP 1 0 rfl rfl (vp_in_lit (by decide)) dX10_paste_22 ?_
          refine lv_topi (fun z_25 ez_25 => ?_)
          obtain rfl : z_25 = (-1) := ez_25.trans (by decide)
          refine lv_iconst (v := (-1)) hx hb dX10_paste_23 (by decide) ?_
          refine lv_icmp_eq (tgt := 37) hx hb dX10_paste_24 (by decide) (fun _ => ?_) (fun c_26 => absurd c_26 (by decide))
          refine lv_bipush (v := (-6)) hx hb dX10_paste_37 (by decide) ?_
          exact W.iret (v := (-6)) hx hb hr (fun t ht hW => ⟨(-6), rfl, (by decide), ht⟩) t_nil dX10_paste_39
        ·
          refine lv_aload_n hx hb dX10_paste_17 rfl (lv_at hl 0 rfl) ?_
          refine va_get (D := (dC, dI)) (ci := 8) (v := .ref m_many) (C := RX10) (T := TX10) (N := 33) hx hb hts iX10_paste_X10 hown hK hP 0 rfl rfl 29 (by decide) (hts (.fieldLink RX10 65 "LuckyTicketModel" "many" "[I") (List.mem_of_getElem? (i := 9) rfl)) (fun _ h9 => h9) rfl dX10_paste_18 ?_
          refine lv_iload_n hx hb dX10_paste_21 rfl (lv_at hl 1 rfl) ?_
          refine va_iald hx hb hK hP 1 0 rfl rfl (vp_in_lit (by decide)) dX10_paste_22 ?_
          refine lv_topi (fun z_27 ez_27 => ?_)
          obtain rfl : z_27 = (-1) := ez_27.trans (by decide)
          refine lv_iconst (v := (-1)) hx hb dX10_paste_23 (by decide) ?_
          refine lv_icmp_eq (tgt := 37) hx hb dX10_paste_24 (by decide) (fun _ => ?_) (fun c_28 => absurd c_28 (by decide))
          refine lv_bipush (v := (-6)) hx hb dX10_paste_37 (by decide) ?_
          exact W.iret (v := (-6)) hx hb hr (fun t ht hW => ⟨(-6), rfl, (by decide), ht⟩) t_nil dX10_paste_39
      ·
        rcases wi_4 (fun e => c_4 (hr_3.trans e)) with rfl | rfl | rfl | rfl
        ·
          refine lv_aload_n hx hb dX10_paste_17 rfl (lv_at hl 0 rfl) ?_
          refine va_get (D := (dC, dI)) (ci := 8) (v := .ref m_many) (C := RX10) (T := TX10) (N := 33) hx hb hts iX10_paste_X10 hown hK hP 0 rfl rfl 29 (by decide) (hts (.fieldLink RX10 65 "LuckyTicketModel" "many" "[I") (List.mem_of_getElem? (i := 9) rfl)) (fun _ h9 => h9) rfl dX10_paste_18 ?_
          refine lv_iload_n hx hb dX10_paste_21 rfl (lv_at hl 1 rfl) ?_
          refine va_iald hx hb hK hP 1 0 rfl rfl (vp_in_lit (by decide)) dX10_paste_22 ?_
          refine lv_topi (fun z_29 ez_29 => ?_)
          obtain rfl : z_29 = (-1) := ez_29.trans (by decide)
          refine lv_iconst (v := (-1)) hx hb dX10_paste_23 (by decide) ?_
          refine lv_icmp_eq (tgt := 37) hx hb dX10_paste_24 (by decide) (fun _ => ?_) (fun c_30 => absurd c_30 (by decide))
          refine lv_bipush (v := (-6)) hx hb dX10_paste_37 (by decide) ?_
          exact W.iret (v := (-6)) hx hb hr (fun t ht hW => ⟨(-6), rfl, (by decide), ht⟩) t_nil dX10_paste_39
        ·
          refine lv_aload_n hx hb dX10_paste_17 rfl (lv_at hl 0 rfl) ?_
          refine va_get (D := (dC, dI)) (ci := 8) (v := .ref m_many) (C := RX10) (T := TX10) (N := 33) hx hb hts iX10_paste_X10 hown hK hP 0 rfl rfl 29 (by decide) (hts (.fieldLink RX10 65 "LuckyTicketModel" "many" "[I") (List.mem_of_getElem? (i := 9) rfl)) (fun _ h9 => h9) rfl dX10_paste_18 ?_
          refine lv_iload_n hx hb dX10_paste_21 rfl (lv_at hl 1 rfl) ?_
          refine va_iald hx hb hK hP 1 0 rfl rfl (vp_in_lit (by decide)) dX10_paste_22 ?_
          refine lv_topi (fun z_31 ez_31 => ?_)
          obtain rfl : z_31 = (-1) := ez_31.trans (by decide)
          refine lv_iconst (v := (-1)) hx hb dX10_paste_23 (by decide) ?_
          refine lv_icmp_eq (tgt := 37) hx hb dX10_paste_24 (by decide) (fun _ => ?_) (fun c_32 => absurd c_32 (by decide))
          refine lv_bipush (v := (-6)) hx hb dX10_paste_37 (by decide) ?_
          exact W.iret (v := (-6)) hx hb hr (fun t ht hW => ⟨(-6), rfl, (by decide), ht⟩) t_nil dX10_paste_39
        ·
          refine lv_aload_n hx hb dX10_paste_17 rfl (lv_at hl 0 rfl) ?_
          refine va_get (D := (dC, dI)) (ci := 8) (v := .ref m_many) (C := RX10) (T := TX10) (N := 33) hx hb hts iX10_paste_X10 hown hK hP 0 rfl rfl 29 (by decide) (hts (.fieldLink RX10 65 "LuckyTicketModel" "many" "[I") (List.mem_of_getElem? (i := 9) rfl)) (fun _ h9 => h9) rfl dX10_paste_18 ?_
          refine lv_iload_n hx hb dX10_paste_21 rfl (lv_at hl 1 rfl) ?_
          refine va_iald hx hb hK hP 1 0 rfl rfl (vp_in_lit (by decide)) dX10_paste_22 ?_
          refine lv_topi (fun z_33 ez_33 => ?_)
          obtain rfl : z_33 = (-1) := ez_33.trans (by decide)
          refine lv_iconst (v := (-1)) hx hb dX10_paste_23 (by decide) ?_
          refine lv_icmp_eq (tgt := 37) hx hb dX10_paste_24 (by decide) (fun _ => ?_) (fun c_34 => absurd c_34 (by decide))
          refine lv_bipush (v := (-6)) hx hb dX10_paste_37 (by decide) ?_
          exact W.iret (v := (-6)) hx hb hr (fun t ht hW => ⟨(-6), rfl, (by decide), ht⟩) t_nil dX10_paste_39
        ·
          refine lv_aload_n hx hb dX10_paste_17 rfl (lv_at hl 0 rfl) ?_
          refine va_get (D := (dC, dI)) (ci := 8) (v := .ref m_many) (C := RX10) (T := TX10) (N := 33) hx hb hts iX10_paste_X10 hown hK hP 0 rfl rfl 29 (by decide) (hts (.fieldLink RX10 65 "LuckyTicketModel" "many" "[I") (List.mem_of_getElem? (i := 9) rfl)) (fun _ h9 => h9) rfl dX10_paste_18 ?_
          refine lv_iload_n hx hb dX10_paste_21 rfl (lv_at hl 1 rfl) ?_
          refine va_iald hx hb hK hP 1 0 rfl rfl (vp_in_lit (by decide)) dX10_paste_22 ?_
          refine lv_topi (fun z_35 ez_35 => ?_)
          obtain rfl : z_35 = (-1) := ez_35.trans (by decide)
          refine lv_iconst (v := (-1)) hx hb dX10_paste_23 (by decide) ?_
          refine lv_icmp_eq (tgt := 37) hx hb dX10_paste_24 (by decide) (fun _ => ?_) (fun c_36 => absurd c_36 (by decide))
          refine lv_bipush (v := (-6)) hx hb dX10_paste_37 (by decide) ?_
          exact W.iret (v := (-6)) hx hb hr (fun t ht hW => ⟨(-6), rfl, (by decide), ht⟩) t_nil dX10_paste_39
    ·
      refine lv_bipush (v := (-2)) hx hb dX10_paste_14 (by decide) ?_
      exact W.iret (v := (-2)) hx hb hr (fun t ht hW => ⟨(-2), rfl, (if_pos (Or.inr (hr_3.symm.trans c_4))).symm, ht⟩) t_nil dX10_paste_16
theorem dX2_totalByAny_0 : decode cX2_totalByAny 0 = .ok (.iconst 0, 1) := by decide +kernel
theorem dX2_totalByAny_1 : decode cX2_totalByAny 1 = .ok (.istore_n 1, 1) := by decide +kernel
theorem dX2_totalByAny_2 : decode cX2_totalByAny 2 = .ok (.iconst 0, 1) := by decide +kernel
theorem dX2_totalByAny_3 : decode cX2_totalByAny 3 = .ok (.istore_n 2, 1) := by decide +kernel
theorem dX2_totalByAny_4 : decode cX2_totalByAny 4 = .ok (.iload_n 2, 1) := by decide +kernel
theorem dX2_totalByAny_5 : decode cX2_totalByAny 5 = .ok (.aload_n 0, 1) := by decide +kernel
theorem dX2_totalByAny_6 : decode cX2_totalByAny 6 = .ok (.getfield 42, 3) := by decide +kernel
theorem dX2_totalByAny_9 : decode cX2_totalByAny 9 = .ok (.if_icmp .ge 20, 3) := by decide +kernel
theorem dX2_totalByAny_29 : decode cX2_totalByAny 29 = .ok (.iload_n 1, 1) := by decide +kernel
theorem dX2_totalByAny_30 : decode cX2_totalByAny 30 = .ok (.ireturn, 1) := by decide +kernel
def uX2_totalByAny : List Cond := .code yX2_totalByAny cX2_totalByAny 3 (some .int) :: ([.fieldLink RX2 42 "LuckyTicket$Roll" "tickets" "I"] ++ wsX20)
theorem iX2_totalByAny_X2 : ∀ w ∈ wsX20, w ∈ uX2_totalByAny := fun _ h => List.mem_cons_of_mem _ (List.mem_append_right _ h)
set_option maxHeartbeats 4000000 in
set_option maxRecDepth 100000 in
theorem kX2_totalByAny (l : Launch) (dC : Nat → ClassId) (dI : Nat → Nat → Nat) (cu : Nat) (fa : Nat) (lu : Nat) : Met l yX2_totalByAny uX2_totalByAny ({ frames := 0, cells := 0, slots := 0, locals := 0 }) (va_Pc [.ref cu] (pw (dC, dI) vwCl [(cu, .inr (1, [.int 0, .int 0, .int 0, .int 0, .int 0, .ref fa, .ref lu]))] [])) (vp_Si (fun r => r = 0)) 0 0 (fun _ => False) := by
  refine Met.ofW (cc := cX2_totalByAny) (maxL := 3) (ret := (some .int)) (by decide) rfl ?_
  intro p e s m args below meth c s₁ B hml hv
  obtain ⟨rfl, hP, hK, hN⟩ := hv
  have hx := B.exec
  have hb := B.bytes
  have hr := B.returns
  have hts := atoms_spec (ws := uX2_totalByAny) B.pre
  have hown : s.vm.findClass RX2 = some m.cls := findClass_of_methodNamed B.named
  have hlocks := B.notSynchronized
  have hl := lv_entry ([.ref cu]) (n := 3) (Nat.le_of_ble_eq_true rfl)
  rw [lg_entry_eq]
  generalize (lg_sl ([.ref cu]) ++ List.replicate (3 - (lg_sl ([.ref cu])).length) Slot.unset).toArray = ls at hl ⊢
  have hl : lv_has ls 3 [(0, .ref cu)] := hl
  refine lv_iconst (v := 0) hx hb dX2_totalByAny_0 (by decide) ?_
  refine lv_istore_n (lv' := [(1, .int 0), (0, .ref cu)]) hx hb dX2_totalByAny_1 rfl hl (by decide) rfl (fun ls hl => ?_)
  refine lv_iconst (v := 0) hx hb dX2_totalByAny_2 (by decide) ?_
  refine lv_istore_n (lv' := [(2, .int 0), (1, .int 0), (0, .ref cu)]) hx hb dX2_totalByAny_3 rfl hl (by decide) rfl (fun ls hl => ?_)
  refine lv_iload_n hx hb dX2_totalByAny_4 rfl (lv_at hl 0 rfl) ?_
  refine lv_aload_n hx hb dX2_totalByAny_5 rfl (lv_at hl 2 rfl) ?_
  refine va_get (D := (dC, dI)) (ci := 1) (v := .int 0) (C := RX2) (T := TX2) (N := 7) hx hb hts iX2_totalByAny_X2 hown hK hP 0 rfl rfl 2 (by decide) (hts (.fieldLink RX2 42 "LuckyTicket$Roll" "tickets" "I") (List.mem_of_getElem? (i := 1) rfl)) (fun _ h9 => h9) rfl dX2_totalByAny_6 ?_
  refine lv_icmp_ge (tgt := 29) hx hb dX2_totalByAny_9 (by decide) (fun _ => ?_) (fun c_1 => absurd c_1 (by decide))
  refine lv_iload_n hx hb dX2_totalByAny_29 rfl (lv_at hl 1 rfl) ?_
  exact W.iret (v := 0) hx hb hr (fun t ht hW => ⟨0, rfl, rfl, ht⟩) t_nil dX2_totalByAny_30
theorem dX9_standingSlots_0 : decode cX9_standingSlots 0 = .ok (.iconst 0, 1) := by decide +kernel
theorem dX9_standingSlots_1 : decode cX9_standingSlots 1 = .ok (.istore_n 1, 1) := by decide +kernel
theorem dX9_standingSlots_2 : decode cX9_standingSlots 2 = .ok (.iconst 0, 1) := by decide +kernel
theorem dX9_standingSlots_3 : decode cX9_standingSlots 3 = .ok (.istore_n 2, 1) := by decide +kernel
theorem dX9_standingSlots_4 : decode cX9_standingSlots 4 = .ok (.iload_n 2, 1) := by decide +kernel
theorem dX9_standingSlots_5 : decode cX9_standingSlots 5 = .ok (.aload_n 0, 1) := by decide +kernel
theorem dX9_standingSlots_6 : decode cX9_standingSlots 6 = .ok (.getfield 50, 3) := by decide +kernel
theorem dX9_standingSlots_9 : decode cX9_standingSlots 9 = .ok (.arraylength, 1) := by decide +kernel
theorem dX9_standingSlots_10 : decode cX9_standingSlots 10 = .ok (.if_icmp .ge 24, 3) := by decide +kernel
theorem dX9_standingSlots_13 : decode cX9_standingSlots 13 = .ok (.aload_n 0, 1) := by decide +kernel
theorem dX9_standingSlots_14 : decode cX9_standingSlots 14 = .ok (.getfield 50, 3) := by decide +kernel
theorem dX9_standingSlots_17 : decode cX9_standingSlots 17 = .ok (.iload_n 2, 1) := by decide +kernel
theorem dX9_standingSlots_18 : decode cX9_standingSlots 18 = .ok (.aaload, 1) := by decide +kernel
theorem dX9_standingSlots_19 : decode cX9_standingSlots 19 = .ok (.invokevirtual 270, 3) := by decide +kernel
theorem dX9_standingSlots_22 : decode cX9_standingSlots 22 = .ok (.ifCond .eq 6, 3) := by decide +kernel
theorem dX9_standingSlots_28 : decode cX9_standingSlots 28 = .ok (.iinc 2 1, 3) := by decide +kernel
theorem dX9_standingSlots_31 : decode cX9_standingSlots 31 = .ok (.goto (-27), 3) := by decide +kernel
theorem dX9_standingSlots_34 : decode cX9_standingSlots 34 = .ok (.iload_n 1, 1) := by decide +kernel
theorem dX9_standingSlots_35 : decode cX9_standingSlots 35 = .ok (.ireturn, 1) := by decide +kernel
def uX9_standingSlots : List Cond := .code yX9_standingSlots cX9_standingSlots 3 (some .int) :: ([.fieldLink RX9 50 "LuckyTicket" "slots" "[LLuckyTicket$Row;", .methodLink RX9 270 yX3_stands, .instanceMethod yX3_stands, .selects RX3 yX3_stands yX3_stands, .initialized RX3, .code yX3_stands cX3_stands 1 (some .boolean), .fieldLink RX3 9 "LuckyTicket$Row" "width" "I"] ++ wsX90 ++ wsX30)
theorem iX9_standingSlots_X9 : ∀ w ∈ wsX90, w ∈ uX9_standingSlots := fun _ h => List.mem_cons_of_mem _ (List.mem_append_left _ (List.mem_append_right _ h))
theorem iX9_standingSlots_X3 : ∀ w ∈ wsX30, w ∈ uX9_standingSlots := fun _ h => List.mem_cons_of_mem _ (List.mem_append_right _ h)
set_option maxRecDepth 20000 in
theorem gX9_standingSlots__X3_stands_V270 : GoodIn uX9_standingSlots (wsV RX9 270 RX3 yX3_stands uX3_stands) := goodIn_p _ [6] rfl (by decide +kernel)
set_option maxHeartbeats 4000000 in
set_option maxRecDepth 100000 in
theorem kX9_standingSlots (l : Launch) (dC : Nat → ClassId) (dI : Nat → Nat → Nat) (h0 : Nat) (tp : Nat) (sc : Nat) (rd : Nat) (cu : Nat) (im : Nat) (ig : Nat) (sl : Nat) (se : Nat) (su : Nat) (fc : Nat) (cS : ClassId) (s0 : Nat) (s1 : Nat) (s2 : Nat) (s3 : Nat) (n0 : Nat) (n1 : Nat) (n2 : Nat) (n3 : Nat) : Met l yX9_standingSlots uX9_standingSlots ({ frames := 1, cells := 0, slots := 0, locals := 20 }) (va_Pc [.ref h0] (pw (dC, dI) vwCl [(h0, .inr (7, [.ref tp, .ref sc, .ref rd, .ref cu, .ref im, .ref ig, .ref sl, .ref se, .ref su, .ref fc])), (sl, .inl (cS, 4, .inr (.inr (.inr (.inr (sf4 s0 s1 s2 s3)))))), (s0, .inr (2, [.int (-1), .int 0, .ref n0])), (s1, .inr (2, [.int (-1), .int 0, .ref n1])), (s2, .inr (2, [.int (-1), .int 0, .ref n2])), (s3, .inr (2, [.int (-1), .int 0, .ref n3]))] [(cS, .object RX3)])) (vp_Si (fun r => r = 0)) 0 0 (fun _ => False) := by
  refine Met.ofW (cc := cX9_standingSlots) (maxL := 3) (ret := (some .int)) (by decide) rfl ?_
  intro p e s m args below meth c s₁ B hml hv
  obtain ⟨rfl, hP, hK, hN⟩ := hv
  have hx := B.exec
  have hb := B.bytes
  have hr := B.returns
  have hts := atoms_spec (ws := uX9_standingSlots) B.pre
  have hown : s.vm.findClass RX9 = some m.cls := findClass_of_methodNamed B.named
  have hlocks := B.notSynchronized
  have hl := lv_entry ([.ref h0]) (n := 3) (Nat.le_of_ble_eq_true rfl)
  rw [lg_entry_eq]
  generalize (lg_sl ([.ref h0]) ++ List.replicate (3 - (lg_sl ([.ref h0])).length) Slot.unset).toArray = ls at hl ⊢
  have hl : lv_has ls 3 [(0, .ref h0)] := hl
  refine lv_iconst (v := 0) hx hb dX9_standingSlots_0 (by decide) ?_
  refine lv_istore_n (lv' := [(1, .int 0), (0, .ref h0)]) hx hb dX9_standingSlots_1 rfl hl (by decide) rfl (fun ls hl => ?_)
  refine lv_iconst (v := 0) hx hb dX9_standingSlots_2 (by decide) ?_
  refine lv_istore_n (lv' := [(2, .int 0), (1, .int 0), (0, .ref h0)]) hx hb dX9_standingSlots_3 rfl hl (by decide) rfl (fun ls hl => ?_)
  refine lv_iload_n hx hb dX9_standingSlots_4 rfl (lv_at hl 0 rfl) ?_
  refine lv_aload_n hx hb dX9_standingSlots_5 rfl (lv_at hl 2 rfl) ?_
  refine va_get (D := (dC, dI)) (ci := 7) (v := .ref sl) (C := RX9) (T := TX9) (N := 10) hx hb hts iX9_standingSlots_X9 hown hK hP 0 rfl rfl 6 (by decide) (hts (.fieldLink RX9 50 "LuckyTicket" "slots" "[LLuckyTicket$Row;") (List.mem_of_getElem? (i := 1) rfl)) (fun _ h9 => h9) rfl dX9_standingSlots_6 ?_
  refine va_alen (v := 4) hx hb hK hP 1 0 rfl rfl (by rfl) dX9_standingSlots_9 ?_
  refine lv_icmp_ge (tgt := 34) hx hb dX9_standingSlots_10 (by decide) (fun c_1 => absurd c_1 (by decide)) (fun _ => ?_)
  refine lv_aload_n hx hb dX9_standingSlots_13 rfl (lv_at hl 2 rfl) ?_
  refine va_get (D := (dC, dI)) (ci := 7) (v := .ref sl) (C := RX9) (T := TX9) (N := 10) hx hb hts iX9_standingSlots_X9 hown hK hP 0 rfl rfl 6 (by decide) (hts (.fieldLink RX9 50 "LuckyTicket" "slots" "[LLuckyTicket$Row;") (List.mem_of_getElem? (i := 1) rfl)) (fun _ h9 => h9) rfl dX9_standingSlots_14 ?_
  refine lv_iload_n hx hb dX9_standingSlots_17 rfl (lv_at hl 0 rfl) ?_
  refine va_aldq hx hb hK hP 1 0 rfl rfl (vp_in_lit (by decide)) dX9_standingSlots_18 ?_
  refine W.eq (g2 := F0 m 19 ls (.ref s0 :: [])) (congrArg (fun v => F0 m 19 ls (va_rf v :: [])) (sf4_0 s0 s1 s2 s3)) ?_
  refine vp_callSi (W.runV (As := []) (rest := []) ⟨hx, hb, hml, hown, hts⟩ (kX3_stands l dC dI s0 n0) (cwV 0 hts gX9_standingSlots__X3_stands_V270 rfl rfl rfl (by decide +kernel) ⟨lel 1 1 rfl, lel 20 20 rfl⟩) ⟨pw_fb, va_recv hK hP (ci := 2) (q0 := 2) rfl rfl, (pw_use hP hK hN [2] rfl [] rfl)⟩ rfl rfl hl.1 rfl (lv_room (Nat.le_of_ble_eq_true rfl)) dX9_standingSlots_19 ⟨lel 0 0 rfl, lel 0 0 rfl⟩) (fun r_2 hr_2 => ?_)
  obtain rfl : r_2 = 0 := hr_2
  refine lv_if_eq (tgt := 28) hx hb dX9_standingSlots_22 (by decide) (fun _ => ?_) (fun c_3 => absurd c_3 (by decide))
  refine lv_iinc (v := 1) (lv' := [(2, .int 1), (1, .int 0), (0, .ref h0)]) hx hb dX9_standingSlots_28 hl (k := 0) rfl (by decide) (by decide) rfl (fun ls hl => ?_)
  refine lv_goto (tgt := 4) hx hb dX9_standingSlots_31 (by decide) ?_
  refine lv_iload_n hx hb dX9_standingSlots_4 rfl (lv_at hl 0 rfl) ?_
  refine lv_aload_n hx hb dX9_standingSlots_5 rfl (lv_at hl 2 rfl) ?_
  refine va_get (D := (dC, dI)) (ci := 7) (v := .ref sl) (C := RX9) (T := TX9) (N := 10) hx hb hts iX9_standingSlots_X9 hown hK hP 0 rfl rfl 6 (by decide) (hts (.fieldLink RX9 50 "LuckyTicket" "slots" "[LLuckyTicket$Row;") (List.mem_of_getElem? (i := 1) rfl)) (fun _ h9 => h9) rfl dX9_standingSlots_6 ?_
  refine va_alen (v := 4) hx hb hK hP 1 0 rfl rfl (by rfl) dX9_standingSlots_9 ?_
  refine lv_icmp_ge (tgt := 34) hx hb dX9_standingSlots_10 (by decide) (fun c_4 => absurd c_4 (by decide)) (fun _ => ?_)
  refine lv_aload_n hx hb dX9_standingSlots_13 rfl (lv_at hl 2 rfl) ?_
  refine va_get (D := (dC, dI)) (ci := 7) (v := .ref sl) (C := RX9) (T := TX9) (N := 10) hx hb hts iX9_standingSlots_X9 hown hK hP 0 rfl rfl 6 (by decide) (hts (.fieldLink RX9 50 "LuckyTicket" "slots" "[LLuckyTicket$Row;") (List.mem_of_getElem? (i := 1) rfl)) (fun _ h9 => h9) rfl dX9_standingSlots_14 ?_
  refine lv_iload_n hx hb dX9_standingSlots_17 rfl (lv_at hl 0 rfl) ?_
  refine va_aldq hx hb hK hP 1 0 rfl rfl (vp_in_lit (by decide)) dX9_standingSlots_18 ?_
  refine W.eq (g2 := F0 m 19 ls (.ref s1 :: [])) (congrArg (fun v => F0 m 19 ls (va_rf v :: [])) (sf4_1 s0 s1 s2 s3)) ?_
  refine vp_callSi (W.runV (As := []) (rest := []) ⟨hx, hb, hml, hown, hts⟩ (kX3_stands l dC dI s1 n1) (cwV 0 hts gX9_standingSlots__X3_stands_V270 rfl rfl rfl (by decide +kernel) ⟨lel 1 1 rfl, lel 20 20 rfl⟩) ⟨pw_fb, va_recv hK hP (ci := 2) (q0 := 3) rfl rfl, (pw_use hP hK hN [3] rfl [] rfl)⟩ rfl rfl hl.1 rfl (lv_room (Nat.le_of_ble_eq_true rfl)) dX9_standingSlots_19 ⟨lel 0 0 rfl, lel 0 0 rfl⟩) (fun r_5 hr_5 => ?_)
  obtain rfl : r_5 = 0 := hr_5
  refine lv_if_eq (tgt := 28) hx hb dX9_standingSlots_22 (by decide) (fun _ => ?_) (fun c_6 => absurd c_6 (by decide))
  refine lv_iinc (v := 2) (lv' := [(2, .int 2), (1, .int 0), (0, .ref h0)]) hx hb dX9_standingSlots_28 hl (k := 0) rfl (by decide) (by decide) rfl (fun ls hl => ?_)
  refine lv_goto (tgt := 4) hx hb dX9_standingSlots_31 (by decide) ?_
  refine lv_iload_n hx hb dX9_standingSlots_4 rfl (lv_at hl 0 rfl) ?_
  refine lv_aload_n hx hb dX9_standingSlots_5 rfl (lv_at hl 2 rfl) ?_
  refine va_get (D := (dC, dI)) (ci := 7) (v := .ref sl) (C := RX9) (T := TX9) (N := 10) hx hb hts iX9_standingSlots_X9 hown hK hP 0 rfl rfl 6 (by decide) (hts (.fieldLink RX9 50 "LuckyTicket" "slots" "[LLuckyTicket$Row;") (List.mem_of_getElem? (i := 1) rfl)) (fun _ h9 => h9) rfl dX9_standingSlots_6 ?_
  refine va_alen (v := 4) hx hb hK hP 1 0 rfl rfl (by rfl) dX9_standingSlots_9 ?_
  refine lv_icmp_ge (tgt := 34) hx hb dX9_standingSlots_10 (by decide) (fun c_7 => absurd c_7 (by decide)) (fun _ => ?_)
  refine lv_aload_n hx hb dX9_standingSlots_13 rfl (lv_at hl 2 rfl) ?_
  refine va_get (D := (dC, dI)) (ci := 7) (v := .ref sl) (C := RX9) (T := TX9) (N := 10) hx hb hts iX9_standingSlots_X9 hown hK hP 0 rfl rfl 6 (by decide) (hts (.fieldLink RX9 50 "LuckyTicket" "slots" "[LLuckyTicket$Row;") (List.mem_of_getElem? (i := 1) rfl)) (fun _ h9 => h9) rfl dX9_standingSlots_14 ?_
  refine lv_iload_n hx hb dX9_standingSlots_17 rfl (lv_at hl 0 rfl) ?_
  refine va_aldq hx hb hK hP 1 0 rfl rfl (vp_in_lit (by decide)) dX9_standingSlots_18 ?_
  refine W.eq (g2 := F0 m 19 ls (.ref s2 :: [])) (congrArg (fun v => F0 m 19 ls (va_rf v :: [])) (sf4_2 s0 s1 s2 s3)) ?_
  refine vp_callSi (W.runV (As := []) (rest := []) ⟨hx, hb, hml, hown, hts⟩ (kX3_stands l dC dI s2 n2) (cwV 0 hts gX9_standingSlots__X3_stands_V270 rfl rfl rfl (by decide +kernel) ⟨lel 1 1 rfl, lel 20 20 rfl⟩) ⟨pw_fb, va_recv hK hP (ci := 2) (q0 := 4) rfl rfl, (pw_use hP hK hN [4] rfl [] rfl)⟩ rfl rfl hl.1 rfl (lv_room (Nat.le_of_ble_eq_true rfl)) dX9_standingSlots_19 ⟨lel 0 0 rfl, lel 0 0 rfl⟩) (fun r_8 hr_8 => ?_)
  obtain rfl : r_8 = 0 := hr_8
  refine lv_if_eq (tgt := 28) hx hb dX9_standingSlots_22 (by decide) (fun _ => ?_) (fun c_9 => absurd c_9 (by decide))
  refine lv_iinc (v := 3) (lv' := [(2, .int 3), (1, .int 0), (0, .ref h0)]) hx hb dX9_standingSlots_28 hl (k := 0) rfl (by decide) (by decide) rfl (fun ls hl => ?_)
  refine lv_goto (tgt := 4) hx hb dX9_standingSlots_31 (by decide) ?_
  refine lv_iload_n hx hb dX9_standingSlots_4 rfl (lv_at hl 0 rfl) ?_
  refine lv_aload_n hx hb dX9_standingSlots_5 rfl (lv_at hl 2 rfl) ?_
  refine va_get (D := (dC, dI)) (ci := 7) (v := .ref sl) (C := RX9) (T := TX9) (N := 10) hx hb hts iX9_standingSlots_X9 hown hK hP 0 rfl rfl 6 (by decide) (hts (.fieldLink RX9 50 "LuckyTicket" "slots" "[LLuckyTicket$Row;") (List.mem_of_getElem? (i := 1) rfl)) (fun _ h9 => h9) rfl dX9_standingSlots_6 ?_
  refine va_alen (v := 4) hx hb hK hP 1 0 rfl rfl (by rfl) dX9_standingSlots_9 ?_
  refine lv_icmp_ge (tgt := 34) hx hb dX9_standingSlots_10 (by decide) (fun c_10 => absurd c_10 (by decide)) (fun _ => ?_)
  refine lv_aload_n hx hb dX9_standingSlots_13 rfl (lv_at hl 2 rfl) ?_
  refine va_get (D := (dC, dI)) (ci := 7) (v := .ref sl) (C := RX9) (T := TX9) (N := 10) hx hb hts iX9_standingSlots_X9 hown hK hP 0 rfl rfl 6 (by decide) (hts (.fieldLink RX9 50 "LuckyTicket" "slots" "[LLuckyTicket$Row;") (List.mem_of_getElem? (i := 1) rfl)) (fun _ h9 => h9) rfl dX9_standingSlots_14 ?_
  refine lv_iload_n hx hb dX9_standingSlots_17 rfl (lv_at hl 0 rfl) ?_
  refine va_aldq hx hb hK hP 1 0 rfl rfl (vp_in_lit (by decide)) dX9_standingSlots_18 ?_
  refine W.eq (g2 := F0 m 19 ls (.ref s3 :: [])) (congrArg (fun v => F0 m 19 ls (va_rf v :: [])) (sf4_3 s0 s1 s2 s3)) ?_
  refine vp_callSi (W.runV (As := []) (rest := []) ⟨hx, hb, hml, hown, hts⟩ (kX3_stands l dC dI s3 n3) (cwV 0 hts gX9_standingSlots__X3_stands_V270 rfl rfl rfl (by decide +kernel) ⟨lel 1 1 rfl, lel 20 20 rfl⟩) ⟨pw_fb, va_recv hK hP (ci := 2) (q0 := 5) rfl rfl, (pw_use hP hK hN [5] rfl [] rfl)⟩ rfl rfl hl.1 rfl (lv_room (Nat.le_of_ble_eq_true rfl)) dX9_standingSlots_19 ⟨lel 0 0 rfl, lel 0 0 rfl⟩) (fun r_11 hr_11 => ?_)
  obtain rfl : r_11 = 0 := hr_11
  refine lv_if_eq (tgt := 28) hx hb dX9_standingSlots_22 (by decide) (fun _ => ?_) (fun c_12 => absurd c_12 (by decide))
  refine lv_iinc (v := 4) (lv' := [(2, .int 4), (1, .int 0), (0, .ref h0)]) hx hb dX9_standingSlots_28 hl (k := 0) rfl (by decide) (by decide) rfl (fun ls hl => ?_)
  refine lv_goto (tgt := 4) hx hb dX9_standingSlots_31 (by decide) ?_
  refine lv_iload_n hx hb dX9_standingSlots_4 rfl (lv_at hl 0 rfl) ?_
  refine lv_aload_n hx hb dX9_standingSlots_5 rfl (lv_at hl 2 rfl) ?_
  refine va_get (D := (dC, dI)) (ci := 7) (v := .ref sl) (C := RX9) (T := TX9) (N := 10) hx hb hts iX9_standingSlots_X9 hown hK hP 0 rfl rfl 6 (by decide) (hts (.fieldLink RX9 50 "LuckyTicket" "slots" "[LLuckyTicket$Row;") (List.mem_of_getElem? (i := 1) rfl)) (fun _ h9 => h9) rfl dX9_standingSlots_6 ?_
  refine va_alen (v := 4) hx hb hK hP 1 0 rfl rfl (by rfl) dX9_standingSlots_9 ?_
  refine lv_icmp_ge (tgt := 34) hx hb dX9_standingSlots_10 (by decide) (fun _ => ?_) (fun c_13 => absurd c_13 (by decide))
  refine lv_iload_n hx hb dX9_standingSlots_34 rfl (lv_at hl 1 rfl) ?_
  exact W.iret (v := 0) hx hb hr (fun t ht hW => ⟨0, rfl, rfl, ht⟩) t_nil dX9_standingSlots_35
theorem dX9_count_0 : decode cX9_count 0 = .ok (.iload_n 1, 1) := by decide +kernel
theorem dX9_count_1 : decode cX9_count 1 = .ok (.tableswitch 108 0 7 #[47, 55, 63, 71, 79, 87, 95, 103], 47) := by decide +kernel
theorem dX9_count_48 : decode cX9_count 48 = .ok (.aload_n 0, 1) := by decide +kernel
theorem dX9_count_49 : decode cX9_count 49 = .ok (.getfield 35, 3) := by decide +kernel
theorem dX9_count_52 : decode cX9_count 52 = .ok (.getfield 110, 3) := by decide +kernel
theorem dX9_count_55 : decode cX9_count 55 = .ok (.ireturn, 1) := by decide +kernel
theorem dX9_count_56 : decode cX9_count 56 = .ok (.aload_n 0, 1) := by decide +kernel
theorem dX9_count_57 : decode cX9_count 57 = .ok (.getfield 35, 3) := by decide +kernel
theorem dX9_count_60 : decode cX9_count 60 = .ok (.getfield 220, 3) := by decide +kernel
theorem dX9_count_63 : decode cX9_count 63 = .ok (.ireturn, 1) := by decide +kernel
theorem dX9_count_64 : decode cX9_count 64 = .ok (.aload_n 0, 1) := by decide +kernel
theorem dX9_count_65 : decode cX9_count 65 = .ok (.getfield 35, 3) := by decide +kernel
theorem dX9_count_68 : decode cX9_count 68 = .ok (.getfield 155, 3) := by decide +kernel
theorem dX9_count_71 : decode cX9_count 71 = .ok (.ireturn, 1) := by decide +kernel
theorem dX9_count_72 : decode cX9_count 72 = .ok (.aload_n 0, 1) := by decide +kernel
theorem dX9_count_73 : decode cX9_count 73 = .ok (.getfield 35, 3) := by decide +kernel
theorem dX9_count_76 : decode cX9_count 76 = .ok (.getfield 327, 3) := by decide +kernel
theorem dX9_count_79 : decode cX9_count 79 = .ok (.ireturn, 1) := by decide +kernel
theorem dX9_count_80 : decode cX9_count 80 = .ok (.aload_n 0, 1) := by decide +kernel
theorem dX9_count_81 : decode cX9_count 81 = .ok (.getfield 35, 3) := by decide +kernel
theorem dX9_count_84 : decode cX9_count 84 = .ok (.getfield 94, 3) := by decide +kernel
theorem dX9_count_87 : decode cX9_count 87 = .ok (.ireturn, 1) := by decide +kernel
theorem dX9_count_88 : decode cX9_count 88 = .ok (.aload_n 0, 1) := by decide +kernel
theorem dX9_count_89 : decode cX9_count 89 = .ok (.getfield 10, 3) := by decide +kernel
theorem dX9_count_92 : decode cX9_count 92 = .ok (.getfield 80, 3) := by decide +kernel
theorem dX9_count_95 : decode cX9_count 95 = .ok (.ireturn, 1) := by decide +kernel
theorem dX9_count_96 : decode cX9_count 96 = .ok (.aload_n 0, 1) := by decide +kernel
theorem dX9_count_97 : decode cX9_count 97 = .ok (.getfield 35, 3) := by decide +kernel
theorem dX9_count_100 : decode cX9_count 100 = .ok (.invokevirtual 330, 3) := by decide +kernel
theorem dX9_count_103 : decode cX9_count 103 = .ok (.ireturn, 1) := by decide +kernel
theorem dX9_count_104 : decode cX9_count 104 = .ok (.aload_n 0, 1) := by decide +kernel
theorem dX9_count_105 : decode cX9_count 105 = .ok (.invokevirtual 334, 3) := by decide +kernel
theorem dX9_count_108 : decode cX9_count 108 = .ok (.ireturn, 1) := by decide +kernel
theorem dX9_count_109 : decode cX9_count 109 = .ok (.iconst (-1), 1) := by decide +kernel
theorem dX9_count_110 : decode cX9_count 110 = .ok (.ireturn, 1) := by decide +kernel
def uX9_count : List Cond := .code yX9_count cX9_count 2 (some .int) :: ([.fieldLink RX9 35 "LuckyTicket" "current" "LLuckyTicket$Roll;", .fieldLink RX9 10 "LuckyTicket" "tape" "LLuckyTicket$Tape;", .methodLink RX9 330 yX2_totalByAny, .instanceMethod yX2_totalByAny, .selects RX2 yX2_totalByAny yX2_totalByAny, .initialized RX2, .code yX2_totalByAny cX2_totalByAny 3 (some .int), .fieldLink RX2 42 "LuckyTicket$Roll" "tickets" "I", .methodLink RX9 334 yX9_standingSlots, .instanceMethod yX9_standingSlots, .selects RX9 yX9_standingSlots yX9_standingSlots, .initialized RX9, .code yX9_standingSlots cX9_standingSlots 3 (some .int), .fieldLink RX9 50 "LuckyTicket" "slots" "[LLuckyTicket$Row;", .methodLink RX9 270 yX3_stands, .instanceMethod yX3_stands, .selects RX3 yX3_stands yX3_stands, .initialized RX3, .code yX3_stands cX3_stands 1 (some .boolean), .fieldLink RX3 9 "LuckyTicket$Row" "width" "I"] ++ wsX90 ++ wsX20 ++ wsX70 ++ wsX30)
theorem iX9_count_X9 : ∀ w ∈ wsX90, w ∈ uX9_count := fun _ h => List.mem_cons_of_mem _ (List.mem_append_left _ (List.mem_append_left _ (List.mem_append_left _ (List.mem_append_right _ h))))
theorem iX9_count_X2 : ∀ w ∈ wsX20, w ∈ uX9_count := fun _ h => List.mem_cons_of_mem _ (List.mem_append_left _ (List.mem_append_left _ (List.mem_append_right _ h)))
theorem iX9_count_X7 : ∀ w ∈ wsX70, w ∈ uX9_count := fun _ h => List.mem_cons_of_mem _ (List.mem_append_left _ (List.mem_append_right _ h))
theorem iX9_count_X3 : ∀ w ∈ wsX30, w ∈ uX9_count := fun _ h => List.mem_cons_of_mem _ (List.mem_append_right _ h)
set_option maxRecDepth 20000 in
theorem gX9_count__X2_totalByAny_V330 : GoodIn uX9_count (wsV RX9 330 RX2 yX2_totalByAny uX2_totalByAny) := goodIn_p _ [7] rfl (by decide +kernel)
set_option maxRecDepth 20000 in
theorem gX9_count__X9_standingSlots_V334 : GoodIn uX9_count (wsV RX9 334 RX9 yX9_standingSlots uX9_standingSlots) := goodIn_p _ [13, 19] rfl (by decide +kernel)
set_option maxHeartbeats 4000000 in
set_option maxRecDepth 100000 in
theorem kX9_count (l : Launch) (dC : Nat → ClassId) (dI : Nat → Nat → Nat) (h0 : Nat) (tp : Nat) (sc : Nat) (rd : Nat) (cu : Nat) (im : Nat) (ig : Nat) (sl : Nat) (se : Nat) (su : Nat) (fc : Nat) (fa : Nat) (lu : Nat) (tb : Nat) (cS : ClassId) (s0 : Nat) (s1 : Nat) (s2 : Nat) (s3 : Nat) (n0 : Nat) (n1 : Nat) (n2 : Nat) (n3 : Nat) (a1 : Int32) : Met l yX9_count uX9_count ({ frames := 2, cells := 0, slots := 0, locals := 42 }) (va_Pc [.ref h0, .int a1] (pw (dC, dI) vwCl [(h0, .inr (7, [.ref tp, .ref sc, .ref rd, .ref cu, .ref im, .ref ig, .ref sl, .ref se, .ref su, .ref fc])), (cu, .inr (1, [.int 0, .int 0, .int 0, .int 0, .int 0, .ref fa, .ref lu])), (tp, .inr (6, [.ref tb, .int 0])), (sl, .inl (cS, 4, .inr (.inr (.inr (.inr (sf4 s0 s1 s2 s3)))))), (s0, .inr (2, [.int (-1), .int 0, .ref n0])), (s1, .inr (2, [.int (-1), .int 0, .ref n1])), (s2, .inr (2, [.int (-1), .int 0, .ref n2])), (s3, .inr (2, [.int (-1), .int 0, .ref n3]))] [(cS, .object RX3)])) (vp_Si (fun r => r = ct a1)) 0 0 (fun _ => False) := by
  refine Met.ofW (cc := cX9_count) (maxL := 2) (ret := (some .int)) (by decide) rfl ?_
  intro p e s m args below meth c s₁ B hml hv
  obtain ⟨rfl, hP, hK, hN⟩ := hv
  have hx := B.exec
  have hb := B.bytes
  have hr := B.returns
  have hts := atoms_spec (ws := uX9_count) B.pre
  have hown : s.vm.findClass RX9 = some m.cls := findClass_of_methodNamed B.named
  have hlocks := B.notSynchronized
  have hl := lv_entry ([.ref h0, .int a1]) (n := 2) (Nat.le_of_ble_eq_true rfl)
  rw [lg_entry_eq]
  generalize (lg_sl ([.ref h0, .int a1]) ++ List.replicate (2 - (lg_sl ([.ref h0, .int a1])).length) Slot.unset).toArray = ls at hl ⊢
  have hl : lv_has ls 2 [(0, .ref h0), (1, .int a1)] := hl
  refine lv_iload_n hx hb dX9_count_0 rfl (lv_at hl 1 rfl) ?_
  by_cases c_1 : a1.toInt < 0 ∨ 7 < a1.toInt
  ·
    refine lv_tableOut (tgt := 109) hx hb dX9_count_1 c_1 (by decide) ?_
    refine lv_iconst (v := (-1)) hx hb dX9_count_109 (by decide) ?_
    exact W.iret (v := (-1)) hx hb hr (fun t ht hW => ⟨(-1), rfl, (if_pos c_1).symm, ht⟩) t_nil dX9_count_110
  ·
    rcases ts_8 c_1 with rfl | rfl | rfl | rfl | rfl | rfl | rfl | rfl
    ·
      refine lv_tableIn (off := 47) (tgt := 48) hx hb dX9_count_1 (by decide) (by decide) (by decide) (by decide) ?_
      refine lv_aload_n hx hb dX9_count_48 rfl (lv_at hl 0 rfl) ?_
      refine va_get (D := (dC, dI)) (ci := 7) (v := .ref cu) (C := RX9) (T := TX9) (N := 10) hx hb hts iX9_count_X9 hown hK hP 0 rfl rfl 3 (by decide) (hts (.fieldLink RX9 35 "LuckyTicket" "current" "LLuckyTicket$Roll;") (List.mem_of_getElem? (i := 1) rfl)) (fun _ h9 => h9) rfl dX9_count_49 ?_
      refine va_getN (own := RX9) (index := 110) (ref := RX2) (host := RX9) (D := (dC, dI)) (ci := 1) (v := .int 0) (C := RX2) (T := TX2) (N := 7) hx hb hts iX9_count_X2 hown hK hP 1 rfl rfl 0 (by decide) (va_Nw.use rfl (hN _ (List.mem_of_getElem? (i := 14) rfl))) (fun _ h9 => h9) rfl dX9_count_52 ?_
      exact W.iret (v := 0) hx hb hr (fun t ht hW => ⟨0, rfl, (by decide), ht⟩) t_nil dX9_count_55
    ·
      refine lv_tableIn (off := 55) (tgt := 56) hx hb dX9_count_1 (by decide) (by decide) (by decide) (by decide) ?_
      refine lv_aload_n hx hb dX9_count_56 rfl (lv_at hl 0 rfl) ?_
      refine va_get (D := (dC, dI)) (ci := 7) (v := .ref cu) (C := RX9) (T := TX9) (N := 10) hx hb hts iX9_count_X9 hown hK hP 0 rfl rfl 3 (by decide) (hts (.fieldLink RX9 35 "LuckyTicket" "current" "LLuckyTicket$Roll;") (List.mem_of_getElem? (i := 1) rfl)) (fun _ h9 => h9) rfl dX9_count_57 ?_
      refine va_getN (own := RX9) (index := 220) (ref := RX2) (host := RX9) (D := (dC, dI)) (ci := 1) (v := .int 0) (C := RX2) (T := TX2) (N := 7) hx hb hts iX9_count_X2 hown hK hP 1 rfl rfl 1 (by decide) (va_Nw.use rfl (hN _ (List.mem_of_getElem? (i := 16) rfl))) (fun _ h9 => h9) rfl dX9_count_60 ?_
      exact W.iret (v := 0) hx hb hr (fun t ht hW => ⟨0, rfl, (by decide), ht⟩) t_nil dX9_count_63
    ·
      refine lv_tableIn (off := 63) (tgt := 64) hx hb dX9_count_1 (by decide) (by decide) (by decide) (by decide) ?_
      refine lv_aload_n hx hb dX9_count_64 rfl (lv_at hl 0 rfl) ?_
      refine va_get (D := (dC, dI)) (ci := 7) (v := .ref cu) (C := RX9) (T := TX9) (N := 10) hx hb hts iX9_count_X9 hown hK hP 0 rfl rfl 3 (by decide) (hts (.fieldLink RX9 35 "LuckyTicket" "current" "LLuckyTicket$Roll;") (List.mem_of_getElem? (i := 1) rfl)) (fun _ h9 => h9) rfl dX9_count_65 ?_
      refine va_getN (own := RX9) (index := 155) (ref := RX2) (host := RX9) (D := (dC, dI)) (ci := 1) (v := .int 0) (C := RX2) (T := TX2) (N := 7) hx hb hts iX9_count_X2 hown hK hP 1 rfl rfl 2 (by decide) (va_Nw.use rfl (hN _ (List.mem_of_getElem? (i := 18) rfl))) (fun _ h9 => h9) rfl dX9_count_68 ?_
      exact W.iret (v := 0) hx hb hr (fun t ht hW => ⟨0, rfl, (by decide), ht⟩) t_nil dX9_count_71
    ·
      refine lv_tableIn (off := 71) (tgt := 72) hx hb dX9_count_1 (by decide) (by decide) (by decide) (by decide) ?_
      refine lv_aload_n hx hb dX9_count_72 rfl (lv_at hl 0 rfl) ?_
      refine va_get (D := (dC, dI)) (ci := 7) (v := .ref cu) (C := RX9) (T := TX9) (N := 10) hx hb hts iX9_count_X9 hown hK hP 0 rfl rfl 3 (by decide) (hts (.fieldLink RX9 35 "LuckyTicket" "current" "LLuckyTicket$Roll;") (List.mem_of_getElem? (i := 1) rfl)) (fun _ h9 => h9) rfl dX9_count_73 ?_
      refine va_getN (own := RX9) (index := 327) (ref := RX2) (host := RX9) (D := (dC, dI)) (ci := 1) (v := .int 0) (C := RX2) (T := TX2) (N := 7) hx hb hts iX9_count_X2 hown hK hP 1 rfl rfl 3 (by decide) (va_Nw.use rfl (hN _ (List.mem_of_getElem? (i := 19) rfl))) (fun _ h9 => h9) rfl dX9_count_76 ?_
      exact W.iret (v := 0) hx hb hr (fun t ht hW => ⟨0, rfl, (by decide), ht⟩) t_nil dX9_count_79
    ·
      refine lv_tableIn (off := 79) (tgt := 80) hx hb dX9_count_1 (by decide) (by decide) (by decide) (by decide) ?_
      refine lv_aload_n hx hb dX9_count_80 rfl (lv_at hl 0 rfl) ?_
      refine va_get (D := (dC, dI)) (ci := 7) (v := .ref cu) (C := RX9) (T := TX9) (N := 10) hx hb hts iX9_count_X9 hown hK hP 0 rfl rfl 3 (by decide) (hts (.fieldLink RX9 35 "LuckyTicket" "current" "LLuckyTicket$Roll;") (List.mem_of_getElem? (i := 1) rfl)) (fun _ h9 => h9) rfl dX9_count_81 ?_
      refine va_getN (own := RX9) (index := 94) (ref := RX2) (host := RX9) (D := (dC, dI)) (ci := 1) (v := .int 0) (C := RX2) (T := TX2) (N := 7) hx hb hts iX9_count_X2 hown hK hP 1 rfl rfl 4 (by decide) (va_Nw.use rfl (hN _ (List.mem_of_getElem? (i := 20) rfl))) (fun _ h9 => h9) rfl dX9_count_84 ?_
      exact W.iret (v := 0) hx hb hr (fun t ht hW => ⟨0, rfl, (by decide), ht⟩) t_nil dX9_count_87
    ·
      refine lv_tableIn (off := 87) (tgt := 88) hx hb dX9_count_1 (by decide) (by decide) (by decide) (by decide) ?_
      refine lv_aload_n hx hb dX9_count_88 rfl (lv_at hl 0 rfl) ?_
      refine va_get (D := (dC, dI)) (ci := 7) (v := .ref tp) (C := RX9) (T := TX9) (N := 10) hx hb hts iX9_count_X9 hown hK hP 0 rfl rfl 0 (by decide) (hts (.fieldLink RX9 10 "LuckyTicket" "tape" "LLuckyTicket$Tape;") (List.mem_of_getElem? (i := 2) rfl)) (fun _ h9 => h9) rfl dX9_count_89 ?_
      refine va_getN (own := RX9) (index := 80) (ref := RX7) (host := RX9) (D := (dC, dI)) (ci := 6) (v := .int 0) (C := RX7) (T := TX7) (N := 2) hx hb hts iX9_count_X7 hown hK hP 2 rfl rfl 1 (by decide) (va_Nw.use rfl (hN _ (List.mem_of_getElem? (i := 1) rfl))) (fun _ h9 => h9) rfl dX9_count_92 ?_
      exact W.iret (v := 0) hx hb hr (fun t ht hW => ⟨0, rfl, (by decide), ht⟩) t_nil dX9_count_95
    ·
      refine lv_tableIn (off := 95) (tgt := 96) hx hb dX9_count_1 (by decide) (by decide) (by decide) (by decide) ?_
      refine lv_aload_n hx hb dX9_count_96 rfl (lv_at hl 0 rfl) ?_
      refine va_get (D := (dC, dI)) (ci := 7) (v := .ref cu) (C := RX9) (T := TX9) (N := 10) hx hb hts iX9_count_X9 hown hK hP 0 rfl rfl 3 (by decide) (hts (.fieldLink RX9 35 "LuckyTicket" "current" "LLuckyTicket$Roll;") (List.mem_of_getElem? (i := 1) rfl)) (fun _ h9 => h9) rfl dX9_count_97 ?_
      refine vp_callSi (W.runV (As := []) (rest := []) ⟨hx, hb, hml, hown, hts⟩ (kX2_totalByAny l dC dI cu fa lu) (cwV 0 hts gX9_count__X2_totalByAny_V330 rfl rfl rfl (by decide +kernel) ⟨lel 1 2 rfl, lel 22 42 rfl⟩) ⟨pw_fb, va_recv hK hP (ci := 1) (q0 := 1) rfl rfl, (pw_use hP hK hN [1] rfl [] rfl)⟩ rfl rfl hl.1 rfl (lv_room (Nat.le_of_ble_eq_true rfl)) dX9_count_100 ⟨lel 0 0 rfl, lel 0 0 rfl⟩) (fun r_2 hr_2 => ?_)
      obtain rfl : r_2 = 0 := hr_2
      exact W.iret (v := 0) hx hb hr (fun t ht hW => ⟨0, rfl, (by decide), ht⟩) t_nil dX9_count_103
    ·
      refine lv_tableIn (off := 103) (tgt := 104) hx hb dX9_count_1 (by decide) (by decide) (by decide) (by decide) ?_
      refine lv_aload_n hx hb dX9_count_104 rfl (lv_at hl 0 rfl) ?_
      refine vp_callSi (W.runV (As := []) (rest := []) ⟨hx, hb, hml, hown, hts⟩ (kX9_standingSlots l dC dI h0 tp sc rd cu im ig sl se su fc cS s0 s1 s2 s3 n0 n1 n2 n3) (cwV 0 hts gX9_count__X9_standingSlots_V334 rfl rfl rfl (by decide +kernel) ⟨lel 2 2 rfl, lel 42 42 rfl⟩) ⟨pw_fb, va_recv hK hP (ci := 7) (q0 := 0) rfl rfl, (pw_use hP hK hN [0, 3, 4, 5, 6, 7] rfl [0] rfl)⟩ rfl rfl hl.1 rfl (lv_room (Nat.le_of_ble_eq_true rfl)) dX9_count_105 ⟨lel 0 0 rfl, lel 0 0 rfl⟩) (fun r_3 hr_3 => ?_)
      obtain rfl : r_3 = 0 := hr_3
      exact W.iret (v := 0) hx hb hr (fun t ht hW => ⟨0, rfl, (by decide), ht⟩) t_nil dX9_count_108
theorem dX10_count_0 : decode cX10_count 0 = .ok (.iconst 0, 1) := by decide +kernel
theorem dX10_count_1 : decode cX10_count 1 = .ok (.istore_n 2, 1) := by decide +kernel
theorem dX10_count_2 : decode cX10_count 2 = .ok (.iload_n 1, 1) := by decide +kernel
theorem dX10_count_3 : decode cX10_count 3 = .ok (.tableswitch 155 0 7 #[45, 52, 59, 66, 73, 80, 85, 122], 45) := by decide +kernel
theorem dX10_count_48 : decode cX10_count 48 = .ok (.aload_n 0, 1) := by decide +kernel
theorem dX10_count_49 : decode cX10_count 49 = .ok (.getfield 9, 3) := by decide +kernel
theorem dX10_count_52 : decode cX10_count 52 = .ok (.iconst 0, 1) := by decide +kernel
theorem dX10_count_53 : decode cX10_count 53 = .ok (.iaload, 1) := by decide +kernel
theorem dX10_count_54 : decode cX10_count 54 = .ok (.ireturn, 1) := by decide +kernel
theorem dX10_count_55 : decode cX10_count 55 = .ok (.aload_n 0, 1) := by decide +kernel
theorem dX10_count_56 : decode cX10_count 56 = .ok (.getfield 9, 3) := by decide +kernel
theorem dX10_count_59 : decode cX10_count 59 = .ok (.iconst 1, 1) := by decide +kernel
theorem dX10_count_60 : decode cX10_count 60 = .ok (.iaload, 1) := by decide +kernel
theorem dX10_count_61 : decode cX10_count 61 = .ok (.ireturn, 1) := by decide +kernel
theorem dX10_count_62 : decode cX10_count 62 = .ok (.aload_n 0, 1) := by decide +kernel
theorem dX10_count_63 : decode cX10_count 63 = .ok (.getfield 9, 3) := by decide +kernel
theorem dX10_count_66 : decode cX10_count 66 = .ok (.iconst 2, 1) := by decide +kernel
theorem dX10_count_67 : decode cX10_count 67 = .ok (.iaload, 1) := by decide +kernel
theorem dX10_count_68 : decode cX10_count 68 = .ok (.ireturn, 1) := by decide +kernel
theorem dX10_count_69 : decode cX10_count 69 = .ok (.aload_n 0, 1) := by decide +kernel
theorem dX10_count_70 : decode cX10_count 70 = .ok (.getfield 9, 3) := by decide +kernel
theorem dX10_count_73 : decode cX10_count 73 = .ok (.iconst 3, 1) := by decide +kernel
theorem dX10_count_74 : decode cX10_count 74 = .ok (.iaload, 1) := by decide +kernel
theorem dX10_count_75 : decode cX10_count 75 = .ok (.ireturn, 1) := by decide +kernel
theorem dX10_count_76 : decode cX10_count 76 = .ok (.aload_n 0, 1) := by decide +kernel
theorem dX10_count_77 : decode cX10_count 77 = .ok (.getfield 9, 3) := by decide +kernel
theorem dX10_count_80 : decode cX10_count 80 = .ok (.iconst 4, 1) := by decide +kernel
theorem dX10_count_81 : decode cX10_count 81 = .ok (.iaload, 1) := by decide +kernel
theorem dX10_count_82 : decode cX10_count 82 = .ok (.ireturn, 1) := by decide +kernel
theorem dX10_count_83 : decode cX10_count 83 = .ok (.aload_n 0, 1) := by decide +kernel
theorem dX10_count_84 : decode cX10_count 84 = .ok (.getfield 97, 3) := by decide +kernel
theorem dX10_count_87 : decode cX10_count 87 = .ok (.ireturn, 1) := by decide +kernel
theorem dX10_count_88 : decode cX10_count 88 = .ok (.iconst 0, 1) := by decide +kernel
theorem dX10_count_89 : decode cX10_count 89 = .ok (.istore_n 3, 1) := by decide +kernel
theorem dX10_count_90 : decode cX10_count 90 = .ok (.iload_n 3, 1) := by decide +kernel
theorem dX10_count_91 : decode cX10_count 91 = .ok (.aload_n 0, 1) := by decide +kernel
theorem dX10_count_92 : decode cX10_count 92 = .ok (.getfield 9, 3) := by decide +kernel
theorem dX10_count_95 : decode cX10_count 95 = .ok (.iconst 2, 1) := by decide +kernel
theorem dX10_count_96 : decode cX10_count 96 = .ok (.iaload, 1) := by decide +kernel
theorem dX10_count_97 : decode cX10_count 97 = .ok (.if_icmp .ge 26, 3) := by decide +kernel
theorem dX10_count_123 : decode cX10_count 123 = .ok (.iload_n 2, 1) := by decide +kernel
theorem dX10_count_124 : decode cX10_count 124 = .ok (.ireturn, 1) := by decide +kernel
theorem dX10_count_125 : decode cX10_count 125 = .ok (.iconst 0, 1) := by decide +kernel
theorem dX10_count_126 : decode cX10_count 126 = .ok (.istore_n 3, 1) := by decide +kernel
theorem dX10_count_127 : decode cX10_count 127 = .ok (.iload_n 3, 1) := by decide +kernel
theorem dX10_count_128 : decode cX10_count 128 = .ok (.iconst 4, 1) := by decide +kernel
theorem dX10_count_129 : decode cX10_count 129 = .ok (.if_icmp .ge 27, 3) := by decide +kernel
theorem dX10_count_132 : decode cX10_count 132 = .ok (.iload_n 2, 1) := by decide +kernel
theorem dX10_count_133 : decode cX10_count 133 = .ok (.aload_n 0, 1) := by decide +kernel
theorem dX10_count_134 : decode cX10_count 134 = .ok (.getfield 65, 3) := by decide +kernel
theorem dX10_count_137 : decode cX10_count 137 = .ok (.iload_n 3, 1) := by decide +kernel
theorem dX10_count_138 : decode cX10_count 138 = .ok (.iaload, 1) := by decide +kernel
theorem dX10_count_139 : decode cX10_count 139 = .ok (.iconst (-1), 1) := by decide +kernel
theorem dX10_count_140 : decode cX10_count 140 = .ok (.if_icmp .ne 7, 3) := by decide +kernel
theorem dX10_count_143 : decode cX10_count 143 = .ok (.iconst 0, 1) := by decide +kernel
theorem dX10_count_144 : decode cX10_count 144 = .ok (.goto 4, 3) := by decide +kernel
theorem dX10_count_148 : decode cX10_count 148 = .ok (.iadd, 1) := by decide +kernel
theorem dX10_count_149 : decode cX10_count 149 = .ok (.istore_n 2, 1) := by decide +kernel
theorem dX10_count_150 : decode cX10_count 150 = .ok (.iinc 3 1, 3) := by decide +kernel
theorem dX10_count_153 : decode cX10_count 153 = .ok (.goto (-26), 3) := by decide +kernel
theorem dX10_count_156 : decode cX10_count 156 = .ok (.iload_n 2, 1) := by decide +kernel
theorem dX10_count_157 : decode cX10_count 157 = .ok (.ireturn, 1) := by decide +kernel
theorem dX10_count_158 : decode cX10_count 158 = .ok (.iconst (-1), 1) := by decide +kernel
theorem dX10_count_159 : decode cX10_count 159 = .ok (.ireturn, 1) := by decide +kernel
def uX10_count : List Cond := .code yX10_count cX10_count 4 (some .int) :: ([.fieldLink RX10 9 "LuckyTicketModel" "world" "[I", .fieldLink RX10 97 "LuckyTicketModel" "taped" "I", .fieldLink RX10 65 "LuckyTicketModel" "many" "[I"] ++ wsX100)
theorem iX10_count_X10 : ∀ w ∈ wsX100, w ∈ uX10_count := fun _ h => List.mem_cons_of_mem _ (List.mem_append_right _ h)
set_option maxHeartbeats 4000000 in
set_option maxRecDepth 100000 in
theorem kX10_count (l : Launch) (dC : Nat → ClassId) (dI : Nat → Nat → Nat) (h0 : Nat) (m_world : Nat) (m_images : Nat) (m_hasImage : Nat) (m_luck : Nat) (m_tape : Nat) (m_five : Nat) (m_fresh : Nat) (m_waits : Nat) (m_figures : Nat) (m_pile : Nat) (m_times : Nat) (m_far : Nat) (m_queue : Nat) (m_months : Nat) (m_ways : Nat) (m_waysOn : Nat) (m_many : Nat) (m_width : Nat) (m_numbers : Nat) (m_moving : Nat) (cI : ClassId) (a1 : Int32) : Met l yX10_count uX10_count ({ frames := 0, cells := 0, slots := 0, locals := 0 }) (va_Pc [.ref h0, .int a1] (pw (dC, dI) vwCl [(h0, .inr (8, [.int 0, .ref m_world, .ref m_images, .ref m_hasImage, .ref m_luck, .ref m_tape, .int 0, .ref m_five, .int 0, .int 0, .int 0, .int 0, .int 0, .int 0, .int (-1), .ref m_fresh, .ref m_waits, .int 0, .int 0, .int 0, .ref m_figures, .ref m_pile, .long 0, .ref m_times, .ref m_far, .ref m_queue, .ref m_months, .ref m_ways, .ref m_waysOn, .ref m_many, .ref m_width, .ref m_numbers, .ref m_moving])), (m_world, .inl (cI, 1875, .inl (fun _ => 0))), (m_many, .inl (cI, 4, .inl manyF))] [(cI, .int)])) (vp_Si (fun r => r = ct a1)) 0 0 (fun _ => False) := by
  refine Met.ofW (cc := cX10_count) (maxL := 4) (ret := (some .int)) (by decide) rfl ?_
  intro p e s m args below meth c s₁ B hml hv
  obtain ⟨rfl, hP, hK, hN⟩ := hv
  have hx := B.exec
  have hb := B.bytes
  have hr := B.returns
  have hts := atoms_spec (ws := uX10_count) B.pre
  have hown : s.vm.findClass RX10 = some m.cls := findClass_of_methodNamed B.named
  have hlocks := B.notSynchronized
  have hl := lv_entry ([.ref h0, .int a1]) (n := 4) (Nat.le_of_ble_eq_true rfl)
  rw [lg_entry_eq]
  generalize (lg_sl ([.ref h0, .int a1]) ++ List.replicate (4 - (lg_sl ([.ref h0, .int a1])).length) Slot.unset).toArray = ls at hl ⊢
  have hl : lv_has ls 4 [(0, .ref h0), (1, .int a1)] := hl
  refine lv_iconst (v := 0) hx hb dX10_count_0 (by decide) ?_
  refine lv_istore_n (lv' := [(2, .int 0), (0, .ref h0), (1, .int a1)]) hx hb dX10_count_1 rfl hl (by decide) rfl (fun ls hl => ?_)
  refine lv_iload_n hx hb dX10_count_2 rfl (lv_at hl 2 rfl) ?_
  by_cases c_1 : a1.toInt < 0 ∨ 7 < a1.toInt
  ·
    refine lv_tableOut (tgt := 158) hx hb dX10_count_3 c_1 (by decide) ?_
    refine lv_iconst (v := (-1)) hx hb dX10_count_158 (by decide) ?_
    exact W.iret (v := (-1)) hx hb hr (fun t ht hW => ⟨(-1), rfl, (if_pos c_1).symm, ht⟩) t_nil dX10_count_159
  ·
    rcases ts_8 c_1 with rfl | rfl | rfl | rfl | rfl | rfl | rfl | rfl
    ·
      refine lv_tableIn (off := 45) (tgt := 48) hx hb dX10_count_3 (by decide) (by decide) (by decide) (by decide) ?_
      refine lv_aload_n hx hb dX10_count_48 rfl (lv_at hl 1 rfl) ?_
      refine va_get (D := (dC, dI)) (ci := 8) (v := .ref m_world) (C := RX10) (T := TX10) (N := 33) hx hb hts iX10_count_X10 hown hK hP 0 rfl rfl 1 (by decide) (hts (.fieldLink RX10 9 "LuckyTicketModel" "world" "[I") (List.mem_of_getElem? (i := 1) rfl)) (fun _ h9 => h9) rfl dX10_count_49 ?_
      refine lv_iconst (v := 0) hx hb dX10_count_52 (by decide) ?_
      refine va_iald hx hb hK hP 1 0 rfl rfl (vp_in_lit (by decide)) dX10_count_53 ?_
      refine lv_topi (fun z_2 ez_2 => ?_)
      obtain rfl : z_2 = 0 := ez_2
      exact W.iret (v := 0) hx hb hr (fun t ht hW => ⟨0, rfl, (by decide), ht⟩) t_nil dX10_count_54
    ·
      refine lv_tableIn (off := 52) (tgt := 55) hx hb dX10_count_3 (by decide) (by decide) (by decide) (by decide) ?_
      refine lv_aload_n hx hb dX10_count_55 rfl (lv_at hl 1 rfl) ?_
      refine va_get (D := (dC, dI)) (ci := 8) (v := .ref m_world) (C := RX10) (T := TX10) (N := 33) hx hb hts iX10_count_X10 hown hK hP 0 rfl rfl 1 (by decide) (hts (.fieldLink RX10 9 "LuckyTicketModel" "world" "[I") (List.mem_of_getElem? (i := 1) rfl)) (fun _ h9 => h9) rfl dX10_count_56 ?_
      refine lv_iconst (v := 1) hx hb dX10_count_59 (by decide) ?_
      refine va_iald hx hb hK hP 1 0 rfl rfl (vp_in_lit (by decide)) dX10_count_60 ?_
      refine lv_topi (fun z_3 ez_3 => ?_)
      obtain rfl : z_3 = 0 := ez_3
      exact W.iret (v := 0) hx hb hr (fun t ht hW => ⟨0, rfl, (by decide), ht⟩) t_nil dX10_count_61
    ·
      refine lv_tableIn (off := 59) (tgt := 62) hx hb dX10_count_3 (by decide) (by decide) (by decide) (by decide) ?_
      refine lv_aload_n hx hb dX10_count_62 rfl (lv_at hl 1 rfl) ?_
      refine va_get (D := (dC, dI)) (ci := 8) (v := .ref m_world) (C := RX10) (T := TX10) (N := 33) hx hb hts iX10_count_X10 hown hK hP 0 rfl rfl 1 (by decide) (hts (.fieldLink RX10 9 "LuckyTicketModel" "world" "[I") (List.mem_of_getElem? (i := 1) rfl)) (fun _ h9 => h9) rfl dX10_count_63 ?_
      refine lv_iconst (v := 2) hx hb dX10_count_66 (by decide) ?_
      refine va_iald hx hb hK hP 1 0 rfl rfl (vp_in_lit (by decide)) dX10_count_67 ?_
      refine lv_topi (fun z_4 ez_4 => ?_)
      obtain rfl : z_4 = 0 := ez_4
      exact W.iret (v := 0) hx hb hr (fun t ht hW => ⟨0, rfl, (by decide), ht⟩) t_nil dX10_count_68
    ·
      refine lv_tableIn (off := 66) (tgt := 69) hx hb dX10_count_3 (by decide) (by decide) (by decide) (by decide) ?_
      refine lv_aload_n hx hb dX10_count_69 rfl (lv_at hl 1 rfl) ?_
      refine va_get (D := (dC, dI)) (ci := 8) (v := .ref m_world) (C := RX10) (T := TX10) (N := 33) hx hb hts iX10_count_X10 hown hK hP 0 rfl rfl 1 (by decide) (hts (.fieldLink RX10 9 "LuckyTicketModel" "world" "[I") (List.mem_of_getElem? (i := 1) rfl)) (fun _ h9 => h9) rfl dX10_count_70 ?_
      refine lv_iconst (v := 3) hx hb dX10_count_73 (by decide) ?_
      refine va_iald hx hb hK hP 1 0 rfl rfl (vp_in_lit (by decide)) dX10_count_74 ?_
      refine lv_topi (fun z_5 ez_5 => ?_)
      obtain rfl : z_5 = 0 := ez_5
      exact W.iret (v := 0) hx hb hr (fun t ht hW => ⟨0, rfl, (by decide), ht⟩) t_nil dX10_count_75
    ·
      refine lv_tableIn (off := 73) (tgt := 76) hx hb dX10_count_3 (by decide) (by decide) (by decide) (by decide) ?_
      refine lv_aload_n hx hb dX10_count_76 rfl (lv_at hl 1 rfl) ?_
      refine va_get (D := (dC, dI)) (ci := 8) (v := .ref m_world) (C := RX10) (T := TX10) (N := 33) hx hb hts iX10_count_X10 hown hK hP 0 rfl rfl 1 (by decide) (hts (.fieldLink RX10 9 "LuckyTicketModel" "world" "[I") (List.mem_of_getElem? (i := 1) rfl)) (fun _ h9 => h9) rfl dX10_count_77 ?_
      refine lv_iconst (v := 4) hx hb dX10_count_80 (by decide) ?_
      refine va_iald hx hb hK hP 1 0 rfl rfl (vp_in_lit (by decide)) dX10_count_81 ?_
      refine lv_topi (fun z_6 ez_6 => ?_)
      obtain rfl : z_6 = 0 := ez_6
      exact W.iret (v := 0) hx hb hr (fun t ht hW => ⟨0, rfl, (by decide), ht⟩) t_nil dX10_count_82
    ·
      refine lv_tableIn (off := 80) (tgt := 83) hx hb dX10_count_3 (by decide) (by decide) (by decide) (by decide) ?_
      refine lv_aload_n hx hb dX10_count_83 rfl (lv_at hl 1 rfl) ?_
      refine va_get (D := (dC, dI)) (ci := 8) (v := .int 0) (C := RX10) (T := TX10) (N := 33) hx hb hts iX10_count_X10 hown hK hP 0 rfl rfl 6 (by decide) (hts (.fieldLink RX10 97 "LuckyTicketModel" "taped" "I") (List.mem_of_getElem? (i := 2) rfl)) (fun _ h9 => h9) rfl dX10_count_84 ?_
      exact W.iret (v := 0) hx hb hr (fun t ht hW => ⟨0, rfl, (by decide), ht⟩) t_nil dX10_count_87
    ·
      refine lv_tableIn (off := 85) (tgt := 88) hx hb dX10_count_3 (by decide) (by decide) (by decide) (by decide) ?_
      refine lv_iconst (v := 0) hx hb dX10_count_88 (by decide) ?_
      refine lv_istore_n (lv' := [(3, .int 0), (2, .int 0), (0, .ref h0), (1, .int 6)]) hx hb dX10_count_89 rfl hl (by decide) rfl (fun ls hl => ?_)
      refine lv_iload_n hx hb dX10_count_90 rfl (lv_at hl 0 rfl) ?_
      refine lv_aload_n hx hb dX10_count_91 rfl (lv_at hl 2 rfl) ?_
      refine va_get (D := (dC, dI)) (ci := 8) (v := .ref m_world) (C := RX10) (T := TX10) (N := 33) hx hb hts iX10_count_X10 hown hK hP 0 rfl rfl 1 (by decide) (hts (.fieldLink RX10 9 "LuckyTicketModel" "world" "[I") (List.mem_of_getElem? (i := 1) rfl)) (fun _ h9 => h9) rfl dX10_count_92 ?_
      refine lv_iconst (v := 2) hx hb dX10_count_95 (by decide) ?_
      refine va_iald hx hb hK hP 1 0 rfl rfl (vp_in_lit (by decide)) dX10_count_96 ?_
      refine lv_topi (fun z_7 ez_7 => ?_)
      obtain rfl : z_7 = 0 := ez_7
      refine lv_icmp_ge (tgt := 123) hx hb dX10_count_97 (by decide) (fun _ => ?_) (fun c_8 => absurd c_8 (by decide))
      refine lv_iload_n hx hb dX10_count_123 rfl (lv_at hl 1 rfl) ?_
      exact W.iret (v := 0) hx hb hr (fun t ht hW => ⟨0, rfl, (by decide), ht⟩) t_nil dX10_count_124
    ·
      refine lv_tableIn (off := 122) (tgt := 125) hx hb dX10_count_3 (by decide) (by decide) (by decide) (by decide) ?_
      refine lv_iconst (v := 0) hx hb dX10_count_125 (by decide) ?_
      refine lv_istore_n (lv' := [(3, .int 0), (2, .int 0), (0, .ref h0), (1, .int 7)]) hx hb dX10_count_126 rfl hl (by decide) rfl (fun ls hl => ?_)
      refine lv_iload_n hx hb dX10_count_127 rfl (lv_at hl 0 rfl) ?_
      refine lv_iconst (v := 4) hx hb dX10_count_128 (by decide) ?_
      refine lv_icmp_ge (tgt := 156) hx hb dX10_count_129 (by decide) (fun c_9 => absurd c_9 (by decide)) (fun _ => ?_)
      refine lv_iload_n hx hb dX10_count_132 rfl (lv_at hl 1 rfl) ?_
      refine lv_aload_n hx hb dX10_count_133 rfl (lv_at hl 2 rfl) ?_
      refine va_get (D := (dC, dI)) (ci := 8) (v := .ref m_many) (C := RX10) (T := TX10) (N := 33) hx hb hts iX10_count_X10 hown hK hP 0 rfl rfl 29 (by decide) (hts (.fieldLink RX10 65 "LuckyTicketModel" "many" "[I") (List.mem_of_getElem? (i := 3) rfl)) (fun _ h9 => h9) rfl dX10_count_134 ?_
      refine lv_iload_n hx hb dX10_count_137 rfl (lv_at hl 0 rfl) ?_
      refine va_iald hx hb hK hP 2 0 rfl rfl (vp_in_lit (by decide)) dX10_count_138 ?_
      refine lv_topi (fun z_10 ez_10 => ?_)
      obtain rfl : z_10 = (-1) := ez_10.trans (by decide)
      refine lv_iconst (v := (-1)) hx hb dX10_count_139 (by decide) ?_
      refine lv_icmp_ne (tgt := 147) hx hb dX10_count_140 (by decide) (fun c_11 => absurd c_11 (by decide)) (fun _ => ?_)
      refine lv_iconst (v := 0) hx hb dX10_count_143 (by decide) ?_
      refine lv_goto (tgt := 148) hx hb dX10_count_144 (by decide) ?_
      refine lv_iadd hx hb dX10_count_148 ?_
      refine lv_topi (fun z_12 ez_12 => ?_)
      obtain rfl : z_12 = 0 := ez_12.trans (by decide)
      refine lv_istore_n (lv' := [(2, .int 0), (3, .int 0), (0, .ref h0), (1, .int 7)]) hx hb dX10_count_149 rfl hl (by decide) rfl (fun ls hl => ?_)
      refine lv_iinc (v := 1) (lv' := [(3, .int 1), (2, .int 0), (0, .ref h0), (1, .int 7)]) hx hb dX10_count_150 hl (k := 1) rfl (by decide) (by decide) rfl (fun ls hl => ?_)
      refine lv_goto (tgt := 127) hx hb dX10_count_153 (by decide) ?_
      refine lv_iload_n hx hb dX10_count_127 rfl (lv_at hl 0 rfl) ?_
      refine lv_iconst (v := 4) hx hb dX10_count_128 (by decide) ?_
      refine lv_icmp_ge (tgt := 156) hx hb dX10_count_129 (by decide) (fun c_13 => absurd c_13 (by decide)) (fun _ => ?_)
      refine lv_iload_n hx hb dX10_count_132 rfl (lv_at hl 1 rfl) ?_
      refine lv_aload_n hx hb dX10_count_133 rfl (lv_at hl 2 rfl) ?_
      refine va_get (D := (dC, dI)) (ci := 8) (v := .ref m_many) (C := RX10) (T := TX10) (N := 33) hx hb hts iX10_count_X10 hown hK hP 0 rfl rfl 29 (by decide) (hts (.fieldLink RX10 65 "LuckyTicketModel" "many" "[I") (List.mem_of_getElem? (i := 3) rfl)) (fun _ h9 => h9) rfl dX10_count_134 ?_
      refine lv_iload_n hx hb dX10_count_137 rfl (lv_at hl 0 rfl) ?_
      refine va_iald hx hb hK hP 2 0 rfl rfl (vp_in_lit (by decide)) dX10_count_138 ?_
      refine lv_topi (fun z_14 ez_14 => ?_)
      obtain rfl : z_14 = (-1) := ez_14.trans (by decide)
      refine lv_iconst (v := (-1)) hx hb dX10_count_139 (by decide) ?_
      refine lv_icmp_ne (tgt := 147) hx hb dX10_count_140 (by decide) (fun c_15 => absurd c_15 (by decide)) (fun _ => ?_)
      refine lv_iconst (v := 0) hx hb dX10_count_143 (by decide) ?_
      refine lv_goto (tgt := 148) hx hb dX10_count_144 (by decide) ?_
      refine lv_iadd hx hb dX10_count_148 ?_
      refine lv_topi (fun z_16 ez_16 => ?_)
      obtain rfl : z_16 = 0 := ez_16.trans (by decide)
      refine lv_istore_n (lv' := [(2, .int 0), (3, .int 1), (0, .ref h0), (1, .int 7)]) hx hb dX10_count_149 rfl hl (by decide) rfl (fun ls hl => ?_)
      refine lv_iinc (v := 2) (lv' := [(3, .int 2), (2, .int 0), (0, .ref h0), (1, .int 7)]) hx hb dX10_count_150 hl (k := 1) rfl (by decide) (by decide) rfl (fun ls hl => ?_)
      refine lv_goto (tgt := 127) hx hb dX10_count_153 (by decide) ?_
      refine lv_iload_n hx hb dX10_count_127 rfl (lv_at hl 0 rfl) ?_
      refine lv_iconst (v := 4) hx hb dX10_count_128 (by decide) ?_
      refine lv_icmp_ge (tgt := 156) hx hb dX10_count_129 (by decide) (fun c_17 => absurd c_17 (by decide)) (fun _ => ?_)
      refine lv_iload_n hx hb dX10_count_132 rfl (lv_at hl 1 rfl) ?_
      refine lv_aload_n hx hb dX10_count_133 rfl (lv_at hl 2 rfl) ?_
      refine va_get (D := (dC, dI)) (ci := 8) (v := .ref m_many) (C := RX10) (T := TX10) (N := 33) hx hb hts iX10_count_X10 hown hK hP 0 rfl rfl 29 (by decide) (hts (.fieldLink RX10 65 "LuckyTicketModel" "many" "[I") (List.mem_of_getElem? (i := 3) rfl)) (fun _ h9 => h9) rfl dX10_count_134 ?_
      refine lv_iload_n hx hb dX10_count_137 rfl (lv_at hl 0 rfl) ?_
      refine va_iald hx hb hK hP 2 0 rfl rfl (vp_in_lit (by decide)) dX10_count_138 ?_
      refine lv_topi (fun z_18 ez_18 => ?_)
      obtain rfl : z_18 = (-1) := ez_18.trans (by decide)
      refine lv_iconst (v := (-1)) hx hb dX10_count_139 (by decide) ?_
      refine lv_icmp_ne (tgt := 147) hx hb dX10_count_140 (by decide) (fun c_19 => absurd c_19 (by decide)) (fun _ => ?_)
      refine lv_iconst (v := 0) hx hb dX10_count_143 (by decide) ?_
      refine lv_goto (tgt := 148) hx hb dX10_count_144 (by decide) ?_
      refine lv_iadd hx hb dX10_count_148 ?_
      refine lv_topi (fun z_20 ez_20 => ?_)
      obtain rfl : z_20 = 0 := ez_20.trans (by decide)
      refine lv_istore_n (lv' := [(2, .int 0), (3, .int 2), (0, .ref h0), (1, .int 7)]) hx hb dX10_count_149 rfl hl (by decide) rfl (fun ls hl => ?_)
      refine lv_iinc (v := 3) (lv' := [(3, .int 3), (2, .int 0), (0, .ref h0), (1, .int 7)]) hx hb dX10_count_150 hl (k := 1) rfl (by decide) (by decide) rfl (fun ls hl => ?_)
      refine lv_goto (tgt := 127) hx hb dX10_count_153 (by decide) ?_
      refine lv_iload_n hx hb dX10_count_127 rfl (lv_at hl 0 rfl) ?_
      refine lv_iconst (v := 4) hx hb dX10_count_128 (by decide) ?_
      refine lv_icmp_ge (tgt := 156) hx hb dX10_count_129 (by decide) (fun c_21 => absurd c_21 (by decide)) (fun _ => ?_)
      refine lv_iload_n hx hb dX10_count_132 rfl (lv_at hl 1 rfl) ?_
      refine lv_aload_n hx hb dX10_count_133 rfl (lv_at hl 2 rfl) ?_
      refine va_get (D := (dC, dI)) (ci := 8) (v := .ref m_many) (C := RX10) (T := TX10) (N := 33) hx hb hts iX10_count_X10 hown hK hP 0 rfl rfl 29 (by decide) (hts (.fieldLink RX10 65 "LuckyTicketModel" "many" "[I") (List.mem_of_getElem? (i := 3) rfl)) (fun _ h9 => h9) rfl dX10_count_134 ?_
      refine lv_iload_n hx hb dX10_count_137 rfl (lv_at hl 0 rfl) ?_
      refine va_iald hx hb hK hP 2 0 rfl rfl (vp_in_lit (by decide)) dX10_count_138 ?_
      refine lv_topi (fun z_22 ez_22 => ?_)
      obtain rfl : z_22 = (-1) := ez_22.trans (by decide)
      refine lv_iconst (v := (-1)) hx hb dX10_count_139 (by decide) ?_
      refine lv_icmp_ne (tgt := 147) hx hb dX10_count_140 (by decide) (fun c_23 => absurd c_23 (by decide)) (fun _ => ?_)
      refine lv_iconst (v := 0) hx hb dX10_count_143 (by decide) ?_
      refine lv_goto (tgt := 148) hx hb dX10_count_144 (by decide) ?_
      refine lv_iadd hx hb dX10_count_148 ?_
      refine lv_topi (fun z_24 ez_24 => ?_)
      obtain rfl : z_24 = 0 := ez_24.trans (by decide)
      refine lv_istore_n (lv' := [(2, .int 0), (3, .int 3), (0, .ref h0), (1, .int 7)]) hx hb dX10_count_149 rfl hl (by decide) rfl (fun ls hl => ?_)
      refine lv_iinc (v := 4) (lv' := [(3, .int 4), (2, .int 0), (0, .ref h0), (1, .int 7)]) hx hb dX10_count_150 hl (k := 1) rfl (by decide) (by decide) rfl (fun ls hl => ?_)
      refine lv_goto (tgt := 127) hx hb dX10_count_153 (by decide) ?_
      refine lv_iload_n hx hb dX10_count_127 rfl (lv_at hl 0 rfl) ?_
      refine lv_iconst (v := 4) hx hb dX10_count_128 (by decide) ?_
      refine lv_icmp_ge (tgt := 156) hx hb dX10_count_129 (by decide) (fun _ => ?_) (fun c_25 => absurd c_25 (by decide))
      refine lv_iload_n hx hb dX10_count_156 rfl (lv_at hl 1 rfl) ?_
      exact W.iret (v := 0) hx hb hr (fun t ht hW => ⟨0, rfl, (by decide), ht⟩) t_nil dX10_count_157
