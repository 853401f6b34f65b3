theorem dX10_feed_0 : decode cX10_feed 0 = .ok (.aload_n 0, 1) := by decide +kernel
theorem dX10_feed_1 : decode cX10_feed 1 = .ok (.getfield 97, 3) := by decide +kernel
theorem dX10_feed_4 : decode cX10_feed 4 = .ok (.bipush 20, 2) := by decide +kernel
theorem dX10_feed_6 : decode cX10_feed 6 = .ok (.iadd, 1) := by decide +kernel
theorem dX10_feed_7 : decode cX10_feed 7 = .ok (.sipush 1200, 3) := by decide +kernel
theorem dX10_feed_10 : decode cX10_feed 10 = .ok (.if_icmp .le 5, 3) := by decide +kernel
theorem dX10_feed_15 : decode cX10_feed 15 = .ok (.aload_n 0, 1) := by decide +kernel
theorem dX10_feed_16 : decode cX10_feed 16 = .ok (.getfield 27, 3) := by decide +kernel
theorem dX10_feed_19 : decode cX10_feed 19 = .ok (.iconst 0, 1) := by decide +kernel
theorem dX10_feed_20 : decode cX10_feed 20 = .ok (.iload_n 1, 1) := by decide +kernel
theorem dX10_feed_21 : decode cX10_feed 21 = .ok (.iastore, 1) := by decide +kernel
theorem dX10_feed_22 : decode cX10_feed 22 = .ok (.aload_n 0, 1) := by decide +kernel
theorem dX10_feed_23 : decode cX10_feed 23 = .ok (.getfield 27, 3) := by decide +kernel
theorem dX10_feed_26 : decode cX10_feed 26 = .ok (.iconst 1, 1) := by decide +kernel
theorem dX10_feed_27 : decode cX10_feed 27 = .ok (.iload_n 2, 1) := by decide +kernel
theorem dX10_feed_28 : decode cX10_feed 28 = .ok (.iastore, 1) := by decide +kernel
theorem dX10_feed_29 : decode cX10_feed 29 = .ok (.aload_n 0, 1) := by decide +kernel
theorem dX10_feed_30 : decode cX10_feed 30 = .ok (.getfield 27, 3) := by decide +kernel
theorem dX10_feed_33 : decode cX10_feed 33 = .ok (.iconst 2, 1) := by decide +kernel
theorem dX10_feed_34 : decode cX10_feed 34 = .ok (.iload_n 3, 1) := by decide +kernel
theorem dX10_feed_35 : decode cX10_feed 35 = .ok (.iastore, 1) := by decide +kernel
theorem dX10_feed_36 : decode cX10_feed 36 = .ok (.aload_n 0, 1) := by decide +kernel
theorem dX10_feed_37 : decode cX10_feed 37 = .ok (.getfield 27, 3) := by decide +kernel
theorem dX10_feed_40 : decode cX10_feed 40 = .ok (.iconst 3, 1) := by decide +kernel
theorem dX10_feed_41 : decode cX10_feed 41 = .ok (.iload 4, 2) := by decide +kernel
theorem dX10_feed_43 : decode cX10_feed 43 = .ok (.iastore, 1) := by decide +kernel
theorem dX10_feed_44 : decode cX10_feed 44 = .ok (.aload_n 0, 1) := by decide +kernel
theorem dX10_feed_45 : decode cX10_feed 45 = .ok (.getfield 27, 3) := by decide +kernel
theorem dX10_feed_48 : decode cX10_feed 48 = .ok (.iconst 4, 1) := by decide +kernel
theorem dX10_feed_49 : decode cX10_feed 49 = .ok (.iload 5, 2) := by decide +kernel
theorem dX10_feed_51 : decode cX10_feed 51 = .ok (.iastore, 1) := by decide +kernel
theorem dX10_feed_52 : decode cX10_feed 52 = .ok (.iconst 0, 1) := by decide +kernel
theorem dX10_feed_53 : decode cX10_feed 53 = .ok (.istore 6, 2) := by decide +kernel
theorem dX10_feed_55 : decode cX10_feed 55 = .ok (.iload 6, 2) := by decide +kernel
theorem dX10_feed_57 : decode cX10_feed 57 = .ok (.bipush 20, 2) := by decide +kernel
theorem dX10_feed_59 : decode cX10_feed 59 = .ok (.if_icmp .ge 42, 3) := by decide +kernel
theorem dX10_feed_62 : decode cX10_feed 62 = .ok (.aload_n 0, 1) := by decide +kernel
theorem dX10_feed_63 : decode cX10_feed 63 = .ok (.getfield 23, 3) := by decide +kernel
theorem dX10_feed_66 : decode cX10_feed 66 = .ok (.aload_n 0, 1) := by decide +kernel
theorem dX10_feed_67 : decode cX10_feed 67 = .ok (.getfield 97, 3) := by decide +kernel
theorem dX10_feed_70 : decode cX10_feed 70 = .ok (.iload 6, 2) := by decide +kernel
theorem dX10_feed_72 : decode cX10_feed 72 = .ok (.iadd, 1) := by decide +kernel
theorem dX10_feed_73 : decode cX10_feed 73 = .ok (.aload_n 0, 1) := by decide +kernel
theorem dX10_feed_74 : decode cX10_feed 74 = .ok (.getfield 27, 3) := by decide +kernel
theorem dX10_feed_77 : decode cX10_feed 77 = .ok (.iload 6, 2) := by decide +kernel
theorem dX10_feed_79 : decode cX10_feed 79 = .ok (.iconst 4, 1) := by decide +kernel
theorem dX10_feed_80 : decode cX10_feed 80 = .ok (.idiv, 1) := by decide +kernel
theorem dX10_feed_81 : decode cX10_feed 81 = .ok (.iaload, 1) := by decide +kernel
theorem dX10_feed_82 : decode cX10_feed 82 = .ok (.bipush 24, 2) := by decide +kernel
theorem dX10_feed_84 : decode cX10_feed 84 = .ok (.bipush 8, 2) := by decide +kernel
theorem dX10_feed_86 : decode cX10_feed 86 = .ok (.iload 6, 2) := by decide +kernel
theorem dX10_feed_88 : decode cX10_feed 88 = .ok (.iconst 4, 1) := by decide +kernel
theorem dX10_feed_89 : decode cX10_feed 89 = .ok (.irem, 1) := by decide +kernel
theorem dX10_feed_90 : decode cX10_feed 90 = .ok (.imul, 1) := by decide +kernel
theorem dX10_feed_91 : decode cX10_feed 91 = .ok (.isub, 1) := by decide +kernel
theorem dX10_feed_92 : decode cX10_feed 92 = .ok (.ishr, 1) := by decide +kernel
theorem dX10_feed_93 : decode cX10_feed 93 = .ok (.i2b, 1) := by decide +kernel
theorem dX10_feed_94 : decode cX10_feed 94 = .ok (.bastore, 1) := by decide +kernel
theorem dX10_feed_95 : decode cX10_feed 95 = .ok (.iinc 6 1, 3) := by decide +kernel
theorem dX10_feed_98 : decode cX10_feed 98 = .ok (.goto (-43), 3) := by decide +kernel
theorem dX10_feed_101 : decode cX10_feed 101 = .ok (.aload_n 0, 1) := by decide +kernel
theorem dX10_feed_102 : decode cX10_feed 102 = .ok (.dup, 1) := by decide +kernel
theorem dX10_feed_103 : decode cX10_feed 103 = .ok (.getfield 97, 3) := by decide +kernel
theorem dX10_feed_106 : decode cX10_feed 106 = .ok (.bipush 20, 2) := by decide +kernel
theorem dX10_feed_108 : decode cX10_feed 108 = .ok (.iadd, 1) := by decide +kernel
theorem dX10_feed_109 : decode cX10_feed 109 = .ok (.putfield 97, 3) := by decide +kernel
theorem dX10_feed_112 : decode cX10_feed 112 = .ok (.aload_n 0, 1) := by decide +kernel
theorem dX10_feed_113 : decode cX10_feed 113 = .ok (.getfield 97, 3) := by decide +kernel
theorem dX10_feed_116 : decode cX10_feed 116 = .ok (.ireturn, 1) := by decide +kernel
def uX10_feed : List Cond := .code yX10_feed cX10_feed 7 (some .int) :: ([.fieldLink RX10 97 "LuckyTicketModel" "taped" "I", .fieldLink RX10 27 "LuckyTicketModel" "five" "[I", .fieldLink RX10 23 "LuckyTicketModel" "tape" "[B"] ++ wsX100)
theorem iX10_feed_X10 : ∀ w ∈ wsX100, w ∈ uX10_feed := fun _ h => List.mem_cons_of_mem _ (List.mem_append_right _ h)
set_option maxHeartbeats 4000000 in
set_option maxRecDepth 100000 in
theorem kX10_feed (l : Launch) (dC : Nat → ClassId) (dI : Nat → Nat → Nat) (h0 : Nat) (m_world : Nat) (m_images : Nat) (m_hasImage : Nat) (m_luck : Nat) (m_tape : Nat) (m_five : Nat) (m_fresh : Nat) (m_waits : Nat) (m_figures : Nat) (m_pile : Nat) (m_times : Nat) (m_far : Nat) (m_queue : Nat) (m_months : Nat) (m_ways : Nat) (m_waysOn : Nat) (m_many : Nat) (m_width : Nat) (m_numbers : Nat) (m_moving : Nat) (cI : ClassId) (cB : ClassId) (f : Nat → Int32) (g : Nat → Int32) (a1 : Int32) (a2 : Int32) (a3 : Int32) (a4 : Int32) (a5 : Int32) (sz : Nat) : Met l yX10_feed uX10_feed ({ frames := 0, cells := 0, slots := 0, locals := 0 }) (va_Pc [.ref h0, .int a1, .int a2, .int a3, .int a4, .int a5] (hw (dC, dI) vwCl [(h0, .inr (8, [.int 0, .ref m_world, .ref m_images, .ref m_hasImage, .ref m_luck, .ref m_tape, .int 0, .ref m_five, .int 0, .int 0, .int 0, .int 0, .int 0, .int 0, .int (-1), .ref m_fresh, .ref m_waits, .int 0, .int 0, .int 0, .ref m_figures, .ref m_pile, .long 0, .ref m_times, .ref m_far, .ref m_queue, .ref m_months, .ref m_ways, .ref m_waysOn, .ref m_many, .ref m_width, .ref m_numbers, .ref m_moving])), (m_tape, .inl (cB, 1200, .inl f)), (m_five, .inl (cI, 5, .inl g))] [(cB, .byte), (cI, .int)] sz)) (va_Qi (fun (r : Int32) (_ : Unit) => r = 20) (fun (_ : Unit) t => va_P (dC, dI) vwCl [] t.heap ∧ va_K (dC, dI) vwCl [] t ∧ va_D (va_A [(h0, .inr (8, [.int 0, .ref m_world, .ref m_images, .ref m_hasImage, .ref m_luck, .ref m_tape, .int 0, .ref m_five, .int 0, .int 0, .int 0, .int 0, .int 0, .int 0, .int (-1), .ref m_fresh, .ref m_waits, .int 0, .int 0, .int 0, .ref m_figures, .ref m_pile, .long 0, .ref m_times, .ref m_far, .ref m_queue, .ref m_months, .ref m_ways, .ref m_waysOn, .ref m_many, .ref m_width, .ref m_numbers, .ref m_moving])), (m_tape, .inl (cB, 1200, .inl f)), (m_five, .inl (cI, 5, .inl g))] sz) []) (va_A [(h0, .inr (8, [.int 0, .ref m_world, .ref m_images, .ref m_hasImage, .ref m_luck, .ref m_tape, .int 0, .ref m_five, .int 0, .int 0, .int 0, .int 0, .int 0, .int 0, .int (-1), .ref m_fresh, .ref m_waits, .int 0, .int 0, .int 0, .ref m_figures, .ref m_pile, .long 0, .ref m_times, .ref m_far, .ref m_queue, .ref m_months, .ref m_ways, .ref m_waysOn, .ref m_many, .ref m_width, .ref m_numbers, .ref m_moving])), (m_tape, .inl (cB, 1200, .inl f)), (m_five, .inl (cI, 5, .inl g))] sz)) 0 0 (va_A [(h0, .inr (8, [.int 0, .ref m_world, .ref m_images, .ref m_hasImage, .ref m_luck, .ref m_tape, .int 0, .ref m_five, .int 0, .int 0, .int 0, .int 0, .int 0, .int 0, .int (-1), .ref m_fresh, .ref m_waits, .int 0, .int 0, .int 0, .ref m_figures, .ref m_pile, .long 0, .ref m_times, .ref m_far, .ref m_queue, .ref m_months, .ref m_ways, .ref m_waysOn, .ref m_many, .ref m_width, .ref m_numbers, .ref m_moving])), (m_tape, .inl (cB, 1200, .inl f)), (m_five, .inl (cI, 5, .inl g))] sz) := by
  refine Met.ofW (cc := cX10_feed) (maxL := 7) (ret := (some .int)) (by decide) rfl ?_
  intro p e s m args below meth c s₁ B hml hv
  obtain ⟨rfl, hsz, hP, hK, hD0, hN⟩ := hv
  have hx := B.exec
  have hb := B.bytes
  have hr := B.returns
  have hts := atoms_spec (ws := uX10_feed) B.pre
  have hown : s.vm.findClass RX10 = some m.cls := findClass_of_methodNamed B.named
  have hlocks := B.notSynchronized
  subst hsz
  have hD := hD0.self (sz := s.heap.size)
  generalize hAe : va_A [(h0, .inr (8, [.int 0, .ref m_world, .ref m_images, .ref m_hasImage, .ref m_luck, .ref m_tape, .int 0, .ref m_five, .int 0, .int 0, .int 0, .int 0, .int 0, .int 0, .int (-1), .ref m_fresh, .ref m_waits, .int 0, .int 0, .int 0, .ref m_figures, .ref m_pile, .long 0, .ref m_times, .ref m_far, .ref m_queue, .ref m_months, .ref m_ways, .ref m_waysOn, .ref m_many, .ref m_width, .ref m_numbers, .ref m_moving])), (m_tape, .inl (cB, 1200, .inl f)), (m_five, .inl (cI, 5, .inl g))] s.heap.size = A at hD ⊢
  have hA : ∀ q : Nat, s.heap.size ≤ q → A q := fun q h => by rw [← hAe]; exact Or.inr h
  have hS : va_S A s.heap s.heap [] := va_S.rf
  have hP : va_P (dC, dI) vwCl [(h0, .inr (8, [.int 0, .ref m_world, .ref m_images, .ref m_hasImage, .ref m_luck, .ref m_tape, .int 0, .ref m_five, .int 0, .int 0, .int 0, .int 0, .int 0, .int 0, .int (-1), .ref m_fresh, .ref m_waits, .int 0, .int 0, .int 0, .ref m_figures, .ref m_pile, .long 0, .ref m_times, .ref m_far, .ref m_queue, .ref m_months, .ref m_ways, .ref m_waysOn, .ref m_many, .ref m_width, .ref m_numbers, .ref m_moving])), (m_tape, .inl (cB, 1200, .inl f)), (m_five, .inl (cI, 5, .inl g))] s.heap := hP
  have hl := lv_entry ([.ref h0, .int a1, .int a2, .int a3, .int a4, .int a5]) (n := 7) (Nat.le_of_ble_eq_true rfl)
  rw [lg_entry_eq]
  generalize (lg_sl ([.ref h0, .int a1, .int a2, .int a3, .int a4, .int a5]) ++ List.replicate (7 - (lg_sl ([.ref h0, .int a1, .int a2, .int a3, .int a4, .int a5])).length) Slot.unset).toArray = ls at hl ⊢
  have hl : lv_has ls 7 [(0, .ref h0), (1, .int a1), (2, .int a2), (3, .int a3), (4, .int a4), (5, .int a5)] := hl
  refine lv_aload_n hx hb dX10_feed_0 rfl (lv_at hl 0 rfl) ?_
  refine va_get (D := (dC, dI)) (ci := 8) (v := .int 0) (C := RX10) (T := TX10) (N := 33) hx hb hts iX10_feed_X10 hown hK hP 0 rfl rfl 6 (by decide) (hts (.fieldLink RX10 97 "LuckyTicketModel" "taped" "I") (List.mem_of_getElem? (i := 1) rfl)) (fun _ h9 => h9) rfl dX10_feed_1 ?_
  refine lv_bipush (v := 20) hx hb dX10_feed_4 (by decide) ?_
  refine lv_iadd hx hb dX10_feed_6 ?_
  refine lv_topi (fun z_1 ez_1 => ?_)
  obtain rfl : z_1 = 20 := ez_1.trans (by decide)
  refine lv_sipush (v := 1200) hx hb dX10_feed_7 (by decide) ?_
  refine lv_icmp_le (tgt := 15) hx hb dX10_feed_10 (by decide) (fun _ => ?_) (fun c_2 => absurd c_2 (by decide))
  refine lv_aload_n hx hb dX10_feed_15 rfl (lv_at hl 0 rfl) ?_
  refine va_get (D := (dC, dI)) (ci := 8) (v := .ref m_five) (C := RX10) (T := TX10) (N := 33) hx hb hts iX10_feed_X10 hown hK hP 0 rfl rfl 7 (by decide) (hts (.fieldLink RX10 27 "LuckyTicketModel" "five" "[I") (List.mem_of_getElem? (i := 2) rfl)) (fun _ h9 => h9) rfl dX10_feed_16 ?_
  refine lv_iconst (v := 0) hx hb dX10_feed_19 (by decide) ?_
  refine lv_iload_n hx hb dX10_feed_20 rfl (lv_at hl 1 rfl) ?_
  refine va_iast hx hb hK hP hD hS 2 1 rfl rfl (vp_in_lit (by decide)) dX10_feed_21 (fun H locs hP hD hS => ?_)
  have hP : va_P (dC, dI) vwCl [(h0, .inr (8, [.int 0, .ref m_world, .ref m_images, .ref m_hasImage, .ref m_luck, .ref m_tape, .int 0, .ref m_five, .int 0, .int 0, .int 0, .int 0, .int 0, .int 0, .int (-1), .ref m_fresh, .ref m_waits, .int 0, .int 0, .int 0, .ref m_figures, .ref m_pile, .long 0, .ref m_times, .ref m_far, .ref m_queue, .ref m_months, .ref m_ways, .ref m_waysOn, .ref m_many, .ref m_width, .ref m_numbers, .ref m_moving])), (m_tape, .inl (cB, 1200, .inl f)), (m_five, .inl (cI, 5, .inl (upd g (0 : Int32).toNatClampNeg a1)))] H := hP
  have hD : va_D A [(h0, .inr (8, [.int 0, .ref m_world, .ref m_images, .ref m_hasImage, .ref m_luck, .ref m_tape, .int 0, .ref m_five, .int 0, .int 0, .int 0, .int 0, .int 0, .int 0, .int (-1), .ref m_fresh, .ref m_waits, .int 0, .int 0, .int 0, .ref m_figures, .ref m_pile, .long 0, .ref m_times, .ref m_far, .ref m_queue, .ref m_months, .ref m_ways, .ref m_waysOn, .ref m_many, .ref m_width, .ref m_numbers, .ref m_moving])), (m_tape, .inl (cB, 1200, .inl f)), (m_five, .inl (cI, 5, .inl (upd g (0 : Int32).toNatClampNeg a1)))] := hD
  refine lv_aload_n hx hb dX10_feed_22 rfl (lv_at hl 0 rfl) ?_
  refine va_get (D := (dC, dI)) (ci := 8) (v := .ref m_five) (C := RX10) (T := TX10) (N := 33) hx hb hts iX10_feed_X10 hown hK hP 0 rfl rfl 7 (by decide) (hts (.fieldLink RX10 27 "LuckyTicketModel" "five" "[I") (List.mem_of_getElem? (i := 2) rfl)) (fun _ h9 => h9) rfl dX10_feed_23 ?_
  refine lv_iconst (v := 1) hx hb dX10_feed_26 (by decide) ?_
  refine lv_iload_n hx hb dX10_feed_27 rfl (lv_at hl 2 rfl) ?_
  refine va_iast hx hb hK hP hD hS 2 1 rfl rfl (vp_in_lit (by decide)) dX10_feed_28 (fun H locs hP hD hS => ?_)
  have hP : va_P (dC, dI) vwCl [(h0, .inr (8, [.int 0, .ref m_world, .ref m_images, .ref m_hasImage, .ref m_luck, .ref m_tape, .int 0, .ref m_five, .int 0, .int 0, .int 0, .int 0, .int 0, .int 0, .int (-1), .ref m_fresh, .ref m_waits, .int 0, .int 0, .int 0, .ref m_figures, .ref m_pile, .long 0, .ref m_times, .ref m_far, .ref m_queue, .ref m_months, .ref m_ways, .ref m_waysOn, .ref m_many, .ref m_width, .ref m_numbers, .ref m_moving])), (m_tape, .inl (cB, 1200, .inl f)), (m_five, .inl (cI, 5, .inl (upd (upd g (0 : Int32).toNatClampNeg a1) (1 : Int32).toNatClampNeg a2)))] H := hP
  have hD : va_D A [(h0, .inr (8, [.int 0, .ref m_world, .ref m_images, .ref m_hasImage, .ref m_luck, .ref m_tape, .int 0, .ref m_five, .int 0, .int 0, .int 0, .int 0, .int 0, .int 0, .int (-1), .ref m_fresh, .ref m_waits, .int 0, .int 0, .int 0, .ref m_figures, .ref m_pile, .long 0, .ref m_times, .ref m_far, .ref m_queue, .ref m_months, .ref m_ways, .ref m_waysOn, .ref m_many, .ref m_width, .ref m_numbers, .ref m_moving])), (m_tape, .inl (cB, 1200, .inl f)), (m_five, .inl (cI, 5, .inl (upd (upd g (0 : Int32).toNatClampNeg a1) (1 : Int32).toNatClampNeg a2)))] := hD
  refine lv_aload_n hx hb dX10_feed_29 rfl (lv_at hl 0 rfl) ?_
  refine va_get (D := (dC, dI)) (ci := 8) (v := .ref m_five) (C := RX10) (T := TX10) (N := 33) hx hb hts iX10_feed_X10 hown hK hP 0 rfl rfl 7 (by decide) (hts (.fieldLink RX10 27 "LuckyTicketModel" "five" "[I") (List.mem_of_getElem? (i := 2) rfl)) (fun _ h9 => h9) rfl dX10_feed_30 ?_
  refine lv_iconst (v := 2) hx hb dX10_feed_33 (by decide) ?_
  refine lv_iload_n hx hb dX10_feed_34 rfl (lv_at hl 3 rfl) ?_
  refine va_iast hx hb hK hP hD hS 2 1 rfl rfl (vp_in_lit (by decide)) dX10_feed_35 (fun H locs hP hD hS => ?_)
  have hP : va_P (dC, dI) vwCl [(h0, .inr (8, [.int 0, .ref m_world, .ref m_images, .ref m_hasImage, .ref m_luck, .ref m_tape, .int 0, .ref m_five, .int 0, .int 0, .int 0, .int 0, .int 0, .int 0, .int (-1), .ref m_fresh, .ref m_waits, .int 0, .int 0, .int 0, .ref m_figures, .ref m_pile, .long 0, .ref m_times, .ref m_far, .ref m_queue, .ref m_months, .ref m_ways, .ref m_waysOn, .ref m_many, .ref m_width, .ref m_numbers, .ref m_moving])), (m_tape, .inl (cB, 1200, .inl f)), (m_five, .inl (cI, 5, .inl (upd (upd (upd g (0 : Int32).toNatClampNeg a1) (1 : Int32).toNatClampNeg a2) (2 : Int32).toNatClampNeg a3)))] H := hP
  have hD : va_D A [(h0, .inr (8, [.int 0, .ref m_world, .ref m_images, .ref m_hasImage, .ref m_luck, .ref m_tape, .int 0, .ref m_five, .int 0, .int 0, .int 0, .int 0, .int 0, .int 0, .int (-1), .ref m_fresh, .ref m_waits, .int 0, .int 0, .int 0, .ref m_figures, .ref m_pile, .long 0, .ref m_times, .ref m_far, .ref m_queue, .ref m_months, .ref m_ways, .ref m_waysOn, .ref m_many, .ref m_width, .ref m_numbers, .ref m_moving])), (m_tape, .inl (cB, 1200, .inl f)), (m_five, .inl (cI, 5, .inl (upd (upd (upd g (0 : Int32).toNatClampNeg a1) (1 : Int32).toNatClampNeg a2) (2 : Int32).toNatClampNeg a3)))] := hD
  refine lv_aload_n hx hb dX10_feed_36 rfl (lv_at hl 0 rfl) ?_
  refine va_get (D := (dC, dI)) (ci := 8) (v := .ref m_five) (C := RX10) (T := TX10) (N := 33) hx hb hts iX10_feed_X10 hown hK hP 0 rfl rfl 7 (by decide) (hts (.fieldLink RX10 27 "LuckyTicketModel" "five" "[I") (List.mem_of_getElem? (i := 2) rfl)) (fun _ h9 => h9) rfl dX10_feed_37 ?_
  refine lv_iconst (v := 3) hx hb dX10_feed_40 (by decide) ?_
  refine lv_iload hx hb dX10_feed_41 (lv_at hl 4 rfl) ?_
  refine va_iast hx hb hK hP hD hS 2 1 rfl rfl (vp_in_lit (by decide)) dX10_feed_43 (fun H locs hP hD hS => ?_)
  have hP : va_P (dC, dI) vwCl [(h0, .inr (8, [.int 0, .ref m_world, .ref m_images, .ref m_hasImage, .ref m_luck, .ref m_tape, .int 0, .ref m_five, .int 0, .int 0, .int 0, .int 0, .int 0, .int 0, .int (-1), .ref m_fresh, .ref m_waits, .int 0, .int 0, .int 0, .ref m_figures, .ref m_pile, .long 0, .ref m_times, .ref m_far, .ref m_queue, .ref m_months, .ref m_ways, .ref m_waysOn, .ref m_many, .ref m_width, .ref m_numbers, .ref m_moving])), (m_tape, .inl (cB, 1200, .inl f)), (m_five, .inl (cI, 5, .inl (upd (upd (upd (upd g (0 : Int32).toNatClampNeg a1) (1 : Int32).toNatClampNeg a2) (2 : Int32).toNatClampNeg a3) (3 : Int32).toNatClampNeg a4)))] H := hP
  have hD : va_D A [(h0, .inr (8, [.int 0, .ref m_world, .ref m_images, .ref m_hasImage, .ref m_luck, .ref m_tape, .int 0, .ref m_five, .int 0, .int 0, .int 0, .int 0, .int 0, .int 0, .int (-1), .ref m_fresh, .ref m_waits, .int 0, .int 0, .int 0, .ref m_figures, .ref m_pile, .long 0, .ref m_times, .ref m_far, .ref m_queue, .ref m_months, .ref m_ways, .ref m_waysOn, .ref m_many, .ref m_width, .ref m_numbers, .ref m_moving])), (m_tape, .inl (cB, 1200, .inl f)), (m_five, .inl (cI, 5, .inl (upd (upd (upd (upd g (0 : Int32).toNatClampNeg a1) (1 : Int32).toNatClampNeg a2) (2 : Int32).toNatClampNeg a3) (3 : Int32).toNatClampNeg a4)))] := hD
  refine lv_aload_n hx hb dX10_feed_44 rfl (lv_at hl 0 rfl) ?_
  refine va_get (D := (dC, dI)) (ci := 8) (v := .ref m_five) (C := RX10) (T := TX10) (N := 33) hx hb hts iX10_feed_X10 hown hK hP 0 rfl rfl 7 (by decide) (hts (.fieldLink RX10 27 "LuckyTicketModel" "five" "[I") (List.mem_of_getElem? (i := 2) rfl)) (fun _ h9 => h9) rfl dX10_feed_45 ?_
  refine lv_iconst (v := 4) hx hb dX10_feed_48 (by decide) ?_
  refine lv_iload hx hb dX10_feed_49 (lv_at hl 5 rfl) ?_
  refine va_iast hx hb hK hP hD hS 2 1 rfl rfl (vp_in_lit (by decide)) dX10_feed_51 (fun H locs hP hD hS => ?_)
  have hP : va_P (dC, dI) vwCl [(h0, .inr (8, [.int 0, .ref m_world, .ref m_images, .ref m_hasImage, .ref m_luck, .ref m_tape, .int 0, .ref m_five, .int 0, .int 0, .int 0, .int 0, .int 0, .int 0, .int (-1), .ref m_fresh, .ref m_waits, .int 0, .int 0, .int 0, .ref m_figures, .ref m_pile, .long 0, .ref m_times, .ref m_far, .ref m_queue, .ref m_months, .ref m_ways, .ref m_waysOn, .ref m_many, .ref m_width, .ref m_numbers, .ref m_moving])), (m_tape, .inl (cB, 1200, .inl f)), (m_five, .inl (cI, 5, .inl (upd (upd (upd (upd (upd g (0 : Int32).toNatClampNeg a1) (1 : Int32).toNatClampNeg a2) (2 : Int32).toNatClampNeg a3) (3 : Int32).toNatClampNeg a4) (4 : Int32).toNatClampNeg a5)))] H := hP
  have hD : va_D A [(h0, .inr (8, [.int 0, .ref m_world, .ref m_images, .ref m_hasImage, .ref m_luck, .ref m_tape, .int 0, .ref m_five, .int 0, .int 0, .int 0, .int 0, .int 0, .int 0, .int (-1), .ref m_fresh, .ref m_waits, .int 0, .int 0, .int 0, .ref m_figures, .ref m_pile, .long 0, .ref m_times, .ref m_far, .ref m_queue, .ref m_months, .ref m_ways, .ref m_waysOn, .ref m_many, .ref m_width, .ref m_numbers, .ref m_moving])), (m_tape, .inl (cB, 1200, .inl f)), (m_five, .inl (cI, 5, .inl (upd (upd (upd (upd (upd g (0 : Int32).toNatClampNeg a1) (1 : Int32).toNatClampNeg a2) (2 : Int32).toNatClampNeg a3) (3 : Int32).toNatClampNeg a4) (4 : Int32).toNatClampNeg a5)))] := hD
  refine lv_iconst (v := 0) hx hb dX10_feed_52 (by decide) ?_
  refine lv_istore (lv' := [(6, .int 0), (0, .ref h0), (1, .int a1), (2, .int a2), (3, .int a3), (4, .int a4), (5, .int a5)]) hx hb dX10_feed_53 hl (by decide) rfl (fun ls hl => ?_)
  refine lv_iload hx hb dX10_feed_55 (lv_at hl 0 rfl) ?_
  refine lv_bipush (v := 20) hx hb dX10_feed_57 (by decide) ?_
  refine lv_icmp_ge (tgt := 101) hx hb dX10_feed_59 (by decide) (fun c_3 => absurd c_3 (by decide)) (fun _ => ?_)
  refine lv_aload_n hx hb dX10_feed_62 rfl (lv_at hl 1 rfl) ?_
  refine va_get (D := (dC, dI)) (ci := 8) (v := .ref m_tape) (C := RX10) (T := TX10) (N := 33) hx hb hts iX10_feed_X10 hown hK hP 0 rfl rfl 5 (by decide) (hts (.fieldLink RX10 23 "LuckyTicketModel" "tape" "[B") (List.mem_of_getElem? (i := 3) rfl)) (fun _ h9 => h9) rfl dX10_feed_63 ?_
  refine lv_aload_n hx hb dX10_feed_66 rfl (lv_at hl 1 rfl) ?_
  refine va_get (D := (dC, dI)) (ci := 8) (v := .int 0) (C := RX10) (T := TX10) (N := 33) hx hb hts iX10_feed_X10 hown hK hP 0 rfl rfl 6 (by decide) (hts (.fieldLink RX10 97 "LuckyTicketModel" "taped" "I") (List.mem_of_getElem? (i := 1) rfl)) (fun _ h9 => h9) rfl dX10_feed_67 ?_
  refine lv_iload hx hb dX10_feed_70 (lv_at hl 0 rfl) ?_
  refine lv_iadd hx hb dX10_feed_72 ?_
  refine lv_topi (fun z_4 ez_4 => ?_)
  obtain rfl : z_4 = 0 := ez_4.trans (by decide)
  refine lv_aload_n hx hb dX10_feed_73 rfl (lv_at hl 1 rfl) ?_
  refine va_get (D := (dC, dI)) (ci := 8) (v := .ref m_five) (C := RX10) (T := TX10) (N := 33) hx hb hts iX10_feed_X10 hown hK hP 0 rfl rfl 7 (by decide) (hts (.fieldLink RX10 27 "LuckyTicketModel" "five" "[I") (List.mem_of_getElem? (i := 2) rfl)) (fun _ h9 => h9) rfl dX10_feed_74 ?_
  refine lv_iload hx hb dX10_feed_77 (lv_at hl 0 rfl) ?_
  refine lv_iconst (v := 4) hx hb dX10_feed_79 (by decide) ?_
  refine lv_idiv hx hb dX10_feed_80 (by decide) ?_
  refine lv_topi (fun z_5 ez_5 => ?_)
  obtain rfl : z_5 = 0 := ez_5.trans (by decide)
  refine va_iald hx hb hK hP 2 1 rfl rfl (vp_in_lit (by decide)) dX10_feed_81 ?_
  refine lv_topi (fun z_6 ez_6 => ?_)
  refine lv_bipush (v := 24) hx hb dX10_feed_82 (by decide) ?_
  refine lv_bipush (v := 8) hx hb dX10_feed_84 (by decide) ?_
  refine lv_iload hx hb dX10_feed_86 (lv_at hl 0 rfl) ?_
  refine lv_iconst (v := 4) hx hb dX10_feed_88 (by decide) ?_
  refine lv_irem hx hb dX10_feed_89 (by decide) ?_
  refine lv_topi (fun z_7 ez_7 => ?_)
  obtain rfl : z_7 = 0 := ez_7.trans (by decide)
  refine lv_imul hx hb dX10_feed_90 ?_
  refine lv_topi (fun z_8 ez_8 => ?_)
  obtain rfl : z_8 = 0 := ez_8.trans (by decide)
  refine lv_isub hx hb dX10_feed_91 ?_
  refine lv_topi (fun z_9 ez_9 => ?_)
  obtain rfl : z_9 = 24 := ez_9.trans (by decide)
  refine lv_ishr hx hb dX10_feed_92 ?_
  refine lv_topi (fun z_10 ez_10 => ?_)
  refine lv_i2b (v := z_10.toInt8.toInt32) hx hb dX10_feed_93 rfl ?_
  refine va_bast hx hb hK hP hD hS 1 0 rfl rfl (vp_in_lit (by decide)) dX10_feed_94 (fun H locs hP hD hS => ?_)
  have hP : va_P (dC, dI) vwCl [(h0, .inr (8, [.int 0, .ref m_world, .ref m_images, .ref m_hasImage, .ref m_luck, .ref m_tape, .int 0, .ref m_five, .int 0, .int 0, .int 0, .int 0, .int 0, .int 0, .int (-1), .ref m_fresh, .ref m_waits, .int 0, .int 0, .int 0, .ref m_figures, .ref m_pile, .long 0, .ref m_times, .ref m_far, .ref m_queue, .ref m_months, .ref m_ways, .ref m_waysOn, .ref m_many, .ref m_width, .ref m_numbers, .ref m_moving])), (m_tape, .inl (cB, 1200, .inl (upd f (0 : Int32).toNatClampNeg (vp_nar .byte z_10.toInt8.toInt32)))), (m_five, .inl (cI, 5, .inl (upd (upd (upd (upd (upd g (0 : Int32).toNatClampNeg a1) (1 : Int32).toNatClampNeg a2) (2 : Int32).toNatClampNeg a3) (3 : Int32).toNatClampNeg a4) (4 : Int32).toNatClampNeg a5)))] H := hP
  have hD : va_D A [(h0, .inr (8, [.int 0, .ref m_world, .ref m_images, .ref m_hasImage, .ref m_luck, .ref m_tape, .int 0, .ref m_five, .int 0, .int 0, .int 0, .int 0, .int 0, .int 0, .int (-1), .ref m_fresh, .ref m_waits, .int 0, .int 0, .int 0, .ref m_figures, .ref m_pile, .long 0, .ref m_times, .ref m_far, .ref m_queue, .ref m_months, .ref m_ways, .ref m_waysOn, .ref m_many, .ref m_width, .ref m_numbers, .ref m_moving])), (m_tape, .inl (cB, 1200, .inl (upd f (0 : Int32).toNatClampNeg (vp_nar .byte z_10.toInt8.toInt32)))), (m_five, .inl (cI, 5, .inl (upd (upd (upd (upd (upd g (0 : Int32).toNatClampNeg a1) (1 : Int32).toNatClampNeg a2) (2 : Int32).toNatClampNeg a3) (3 : Int32).toNatClampNeg a4) (4 : Int32).toNatClampNeg a5)))] := hD
  refine lv_iinc (v := 1) (lv' := [(6, .int 1), (0, .ref h0), (1, .int a1), (2, .int a2), (3, .int a3), (4, .int a4), (5, .int a5)]) hx hb dX10_feed_95 hl (k := 0) rfl (by decide) (by decide) rfl (fun ls hl => ?_)
  refine lv_goto (tgt := 55) hx hb dX10_feed_98 (by decide) ?_
  refine lv_iload hx hb dX10_feed_55 (lv_at hl 0 rfl) ?_
  refine lv_bipush (v := 20) hx hb dX10_feed_57 (by decide) ?_
  refine lv_icmp_ge (tgt := 101) hx hb dX10_feed_59 (by decide) (fun c_11 => absurd c_11 (by decide)) (fun _ => ?_)
  refine lv_aload_n hx hb dX10_feed_62 rfl (lv_at hl 1 rfl) ?_
  refine va_get (D := (dC, dI)) (ci := 8) (v := .ref m_tape) (C := RX10) (T := TX10) (N := 33) hx hb hts iX10_feed_X10 hown hK hP 0 rfl rfl 5 (by decide) (hts (.fieldLink RX10 23 "LuckyTicketModel" "tape" "[B") (List.mem_of_getElem? (i := 3) rfl)) (fun _ h9 => h9) rfl dX10_feed_63 ?_
  refine lv_aload_n hx hb dX10_feed_66 rfl (lv_at hl 1 rfl) ?_
  refine va_get (D := (dC, dI)) (ci := 8) (v := .int 0) (C := RX10) (T := TX10) (N := 33) hx hb hts iX10_feed_X10 hown hK hP 0 rfl rfl 6 (by decide) (hts (.fieldLink RX10 97 "LuckyTicketModel" "taped" "I") (List.mem_of_getElem? (i := 1) rfl)) (fun _ h9 => h9) rfl dX10_feed_67 ?_
  refine lv_iload hx hb dX10_feed_70 (lv_at hl 0 rfl) ?_
  refine lv_iadd hx hb dX10_feed_72 ?_
  refine lv_topi (fun z_12 ez_12 => ?_)
  obtain rfl : z_12 = 1 := ez_12.trans (by decide)
  refine lv_aload_n hx hb dX10_feed_73 rfl (lv_at hl 1 rfl) ?_
  refine va_get (D := (dC, dI)) (ci := 8) (v := .ref m_five) (C := RX10) (T := TX10) (N := 33) hx hb hts iX10_feed_X10 hown hK hP 0 rfl rfl 7 (by decide) (hts (.fieldLink RX10 27 "LuckyTicketModel" "five" "[I") (List.mem_of_getElem? (i := 2) rfl)) (fun _ h9 => h9) rfl dX10_feed_74 ?_
  refine lv_iload hx hb dX10_feed_77 (lv_at hl 0 rfl) ?_
  refine lv_iconst (v := 4) hx hb dX10_feed_79 (by decide) ?_
  refine lv_idiv hx hb dX10_feed_80 (by decide) ?_
  refine lv_topi (fun z_13 ez_13 => ?_)
  obtain rfl : z_13 = 0 := ez_13.trans (by decide)
  refine va_iald hx hb hK hP 2 1 rfl rfl (vp_in_lit (by decide)) dX10_feed_81 ?_
  refine lv_topi (fun z_14 ez_14 => ?_)
  refine lv_bipush (v := 24) hx hb dX10_feed_82 (by decide) ?_
  refine lv_bipush (v := 8) hx hb dX10_feed_84 (by decide) ?_
  refine lv_iload hx hb dX10_feed_86 (lv_at hl 0 rfl) ?_
  refine lv_iconst (v := 4) hx hb dX10_feed_88 (by decide) ?_
  refine lv_irem hx hb dX10_feed_89 (by decide) ?_
  refine lv_topi (fun z_15 ez_15 => ?_)
  obtain rfl : z_15 = 1 := ez_15.trans (by decide)
  refine lv_imul hx hb dX10_feed_90 ?_
  refine lv_topi (fun z_16 ez_16 => ?_)
  obtain rfl : z_16 = 8 := ez_16.trans (by decide)
  refine lv_isub hx hb dX10_feed_91 ?_
  refine lv_topi (fun z_17 ez_17 => ?_)
  obtain rfl : z_17 = 16 := ez_17.trans (by decide)
  refine lv_ishr hx hb dX10_feed_92 ?_
  refine lv_topi (fun z_18 ez_18 => ?_)
  refine lv_i2b (v := z_18.toInt8.toInt32) hx hb dX10_feed_93 rfl ?_
  refine va_bast hx hb hK hP hD hS 1 0 rfl rfl (vp_in_lit (by decide)) dX10_feed_94 (fun H locs hP hD hS => ?_)
  have hP : va_P (dC, dI) vwCl [(h0, .inr (8, [.int 0, .ref m_world, .ref m_images, .ref m_hasImage, .ref m_luck, .ref m_tape, .int 0, .ref m_five, .int 0, .int 0, .int 0, .int 0, .int 0, .int 0, .int (-1), .ref m_fresh, .ref m_waits, .int 0, .int 0, .int 0, .ref m_figures, .ref m_pile, .long 0, .ref m_times, .ref m_far, .ref m_queue, .ref m_months, .ref m_ways, .ref m_waysOn, .ref m_many, .ref m_width, .ref m_numbers, .ref m_moving])), (m_tape, .inl (cB, 1200, .inl (upd (upd f (0 : Int32).toNatClampNeg (vp_nar .byte z_10.toInt8.toInt32)) (1 : Int32).toNatClampNeg (vp_nar .byte z_18.toInt8.toInt32)))), (m_five, .inl (cI, 5, .inl (upd (upd (upd (upd (upd g (0 : Int32).toNatClampNeg a1) (1 : Int32).toNatClampNeg a2) (2 : Int32).toNatClampNeg a3) (3 : Int32).toNatClampNeg a4) (4 : Int32).toNatClampNeg a5)))] H := hP
  have hD : va_D A [(h0, .inr (8, [.int 0, .ref m_world, .ref m_images, .ref m_hasImage, .ref m_luck, .ref m_tape, .int 0, .ref m_five, .int 0, .int 0, .int 0, .int 0, .int 0, .int 0, .int (-1), .ref m_fresh, .ref m_waits, .int 0, .int 0, .int 0, .ref m_figures, .ref m_pile, .long 0, .ref m_times, .ref m_far, .ref m_queue, .ref m_months, .ref m_ways, .ref m_waysOn, .ref m_many, .ref m_width, .ref m_numbers, .ref m_moving])), (m_tape, .inl (cB, 1200, .inl (upd (upd f (0 : Int32).toNatClampNeg (vp_nar .byte z_10.toInt8.toInt32)) (1 : Int32).toNatClampNeg (vp_nar .byte z_18.toInt8.toInt32)))), (m_five, .inl (cI, 5, .inl (upd (upd (upd (upd (upd g (0 : Int32).toNatClampNeg a1) (1 : Int32).toNatClampNeg a2) (2 : Int32).toNatClampNeg a3) (3 : Int32).toNatClampNeg a4) (4 : Int32).toNatClampNeg a5)))] := hD
  refine lv_iinc (v := 2) (lv' := [(6, .int 2), (0, .ref h0), (1, .int a1), (2, .int a2), (3, .int a3), (4, .int a4), (5, .int a5)]) hx hb dX10_feed_95 hl (k := 0) rfl (by decide) (by decide) rfl (fun ls hl => ?_)
  refine lv_goto (tgt := 55) hx hb dX10_feed_98 (by decide) ?_
  refine lv_iload hx hb dX10_feed_55 (lv_at hl 0 rfl) ?_
  refine lv_bipush (v := 20) hx hb dX10_feed_57 (by decide) ?_
  refine lv_icmp_ge (tgt := 101) hx hb dX10_feed_59 (by decide) (fun c_19 => absurd c_19 (by decide)) (fun _ => ?_)
  refine lv_aload_n hx hb dX10_feed_62 rfl (lv_at hl 1 rfl) ?_
  refine va_get (D := (dC, dI)) (ci := 8) (v := .ref m_tape) (C := RX10) (T := TX10) (N := 33) hx hb hts iX10_feed_X10 hown hK hP 0 rfl rfl 5 (by decide) (hts (.fieldLink RX10 23 "LuckyTicketModel" "tape" "[B") (List.mem_of_getElem? (i := 3) rfl)) (fun _ h9 => h9) rfl dX10_feed_63 ?_
  refine lv_aload_n hx hb dX10_feed_66 rfl (lv_at hl 1 rfl) ?_
  refine va_get (D := (dC, dI)) (ci := 8) (v := .int 0) (C := RX10) (T := TX10) (N := 33) hx hb hts iX10_feed_X10 hown hK hP 0 rfl rfl 6 (by decide) (hts (.fieldLink RX10 97 "LuckyTicketModel" "taped" "I") (List.mem_of_getElem? (i := 1) rfl)) (fun _ h9 => h9) rfl dX10_feed_67 ?_
  refine lv_iload hx hb dX10_feed_70 (lv_at hl 0 rfl) ?_
  refine lv_iadd hx hb dX10_feed_72 ?_
  refine lv_topi (fun z_20 ez_20 => ?_)
  obtain rfl : z_20 = 2 := ez_20.trans (by decide)
  refine lv_aload_n hx hb dX10_feed_73 rfl (lv_at hl 1 rfl) ?_
  refine va_get (D := (dC, dI)) (ci := 8) (v := .ref m_five) (C := RX10) (T := TX10) (N := 33) hx hb hts iX10_feed_X10 hown hK hP 0 rfl rfl 7 (by decide) (hts (.fieldLink RX10 27 "LuckyTicketModel" "five" "[I") (List.mem_of_getElem? (i := 2) rfl)) (fun _ h9 => h9) rfl dX10_feed_74 ?_
  refine lv_iload hx hb dX10_feed_77 (lv_at hl 0 rfl) ?_
  refine lv_iconst (v := 4) hx hb dX10_feed_79 (by decide) ?_
  refine lv_idiv hx hb dX10_feed_80 (by decide) ?_
  refine lv_topi (fun z_21 ez_21 => ?_)
  obtain rfl : z_21 = 0 := ez_21.trans (by decide)
  refine va_iald hx hb hK hP 2 1 rfl rfl (vp_in_lit (by decide)) dX10_feed_81 ?_
  refine lv_topi (fun z_22 ez_22 => ?_)
  refine lv_bipush (v := 24) hx hb dX10_feed_82 (by decide) ?_
  refine lv_bipush (v := 8) hx hb dX10_feed_84 (by decide) ?_
  refine lv_iload hx hb dX10_feed_86 (lv_at hl 0 rfl) ?_
  refine lv_iconst (v := 4) hx hb dX10_feed_88 (by decide) ?_
  refine lv_irem hx hb dX10_feed_89 (by decide) ?_
  refine lv_topi (fun z_23 ez_23 => ?_)
  obtain rfl : z_23 = 2 := ez_23.trans (by decide)
  refine lv_imul hx hb dX10_feed_90 ?_
  refine lv_topi (fun z_24 ez_24 => ?_)
  obtain rfl : z_24 = 16 := ez_24.trans (by decide)
  refine lv_isub hx hb dX10_feed_91 ?_
  refine lv_topi (fun z_25 ez_25 => ?_)
  obtain rfl : z_25 = 8 := ez_25.trans (by decide)
  refine lv_ishr hx hb dX10_feed_92 ?_
  refine lv_topi (fun z_26 ez_26 => ?_)
  refine lv_i2b (v := z_26.toInt8.toInt32) hx hb dX10_feed_93 rfl ?_
  refine va_bast hx hb hK hP hD hS 1 0 rfl rfl (vp_in_lit (by decide)) dX10_feed_94 (fun H locs hP hD hS => ?_)
  have hP : va_P (dC, dI) vwCl [(h0, .inr (8, [.int 0, .ref m_world, .ref m_images, .ref m_hasImage, .ref m_luck, .ref m_tape, .int 0, .ref m_five, .int 0, .int 0, .int 0, .int 0, .int 0, .int 0, .int (-1), .ref m_fresh, .ref m_waits, .int 0, .int 0, .int 0, .ref m_figures, .ref m_pile, .long 0, .ref m_times, .ref m_far, .ref m_queue, .ref m_months, .ref m_ways, .ref m_waysOn, .ref m_many, .ref m_width, .ref m_numbers, .ref m_moving])), (m_tape, .inl (cB, 1200, .inl (upd (upd (upd f (0 : Int32).toNatClampNeg (vp_nar .byte z_10.toInt8.toInt32)) (1 : Int32).toNatClampNeg (vp_nar .byte z_18.toInt8.toInt32)) (2 : Int32).toNatClampNeg (vp_nar .byte z_26.toInt8.toInt32)))), (m_five, .inl (cI, 5, .inl (upd (upd (upd (upd (upd g (0 : Int32).toNatClampNeg a1) (1 : Int32).toNatClampNeg a2) (2 : Int32).toNatClampNeg a3) (3 : Int32).toNatClampNeg a4) (4 : Int32).toNatClampNeg a5)))] H := hP
  have hD : va_D A [(h0, .inr (8, [.int 0, .ref m_world, .ref m_images, .ref m_hasImage, .ref m_luck, .ref m_tape, .int 0, .ref m_five, .int 0, .int 0, .int 0, .int 0, .int 0, .int 0, .int (-1), .ref m_fresh, .ref m_waits, .int 0, .int 0, .int 0, .ref m_figures, .ref m_pile, .long 0, .ref m_times, .ref m_far, .ref m_queue, .ref m_months, .ref m_ways, .ref m_waysOn, .ref m_many, .ref m_width, .ref m_numbers, .ref m_moving])), (m_tape, .inl (cB, 1200, .inl (upd (upd (upd f (0 : Int32).toNatClampNeg (vp_nar .byte z_10.toInt8.toInt32)) (1 : Int32).toNatClampNeg (vp_nar .byte z_18.toInt8.toInt32)) (2 : Int32).toNatClampNeg (vp_nar .byte z_26.toInt8.toInt32)))), (m_five, .inl (cI, 5, .inl (upd (upd (upd (upd (upd g (0 : Int32).toNatClampNeg a1) (1 : Int32).toNatClampNeg a2) (2 : Int32).toNatClampNeg a3) (3 : Int32).toNatClampNeg a4) (4 : Int32).toNatClampNeg a5)))] := hD
  refine lv_iinc (v := 3) (lv' := [(6, .int 3), (0, .ref h0), (1, .int a1), (2, .int a2), (3, .int a3), (4, .int a4), (5, .int a5)]) hx hb dX10_feed_95 hl (k := 0) rfl (by decide) (by decide) rfl (fun ls hl => ?_)
  refine lv_goto (tgt := 55) hx hb dX10_feed_98 (by decide) ?_
  refine lv_iload hx hb dX10_feed_55 (lv_at hl 0 rfl) ?_
  refine lv_bipush (v := 20) hx hb dX10_feed_57 (by decide) ?_
  refine lv_icmp_ge (tgt := 101) hx hb dX10_feed_59 (by decide) (fun c_27 => absurd c_27 (by decide)) (fun _ => ?_)
  refine lv_aload_n hx hb dX10_feed_62 rfl (lv_at hl 1 rfl) ?_
  refine va_get (D := (dC, dI)) (ci := 8) (v := .ref m_tape) (C := RX10) (T := TX10) (N := 33) hx hb hts iX10_feed_X10 hown hK hP 0 rfl rfl 5 (by decide) (hts (.fieldLink RX10 23 "LuckyTicketModel" "tape" "[B") (List.mem_of_getElem? (i := 3) rfl)) (fun _ h9 => h9) rfl dX10_feed_63 ?_
  refine lv_aload_n hx hb dX10_feed_66 rfl (lv_at hl 1 rfl) ?_
  refine va_get (D := (dC, dI)) (ci := 8) (v := .int 0) (C := RX10) (T := TX10) (N := 33) hx hb hts iX10_feed_X10 hown hK hP 0 rfl rfl 6 (by decide) (hts (.fieldLink RX10 97 "LuckyTicketModel" "taped" "I") (List.mem_of_getElem? (i := 1) rfl)) (fun _ h9 => h9) rfl dX10_feed_67 ?_
  refine lv_iload hx hb dX10_feed_70 (lv_at hl 0 rfl) ?_
  refine lv_iadd hx hb dX10_feed_72 ?_
  refine lv_topi (fun z_28 ez_28 => ?_)
  obtain rfl : z_28 = 3 := ez_28.trans (by decide)
  refine lv_aload_n hx hb dX10_feed_73 rfl (lv_at hl 1 rfl) ?_
  refine va_get (D := (dC, dI)) (ci := 8) (v := .ref m_five) (C := RX10) (T := TX10) (N := 33) hx hb hts iX10_feed_X10 hown hK hP 0 rfl rfl 7 (by decide) (hts (.fieldLink RX10 27 "LuckyTicketModel" "five" "[I") (List.mem_of_getElem? (i := 2) rfl)) (fun _ h9 => h9) rfl dX10_feed_74 ?_
  refine lv_iload hx hb dX10_feed_77 (lv_at hl 0 rfl) ?_
  refine lv_iconst (v := 4) hx hb dX10_feed_79 (by decide) ?_
  refine lv_idiv hx hb dX10_feed_80 (by decide) ?_
  refine lv_topi (fun z_29 ez_29 => ?_)
  obtain rfl : z_29 = 0 := ez_29.trans (by decide)
  refine va_iald hx hb hK hP 2 1 rfl rfl (vp_in_lit (by decide)) dX10_feed_81 ?_
  refine lv_topi (fun z_30 ez_30 => ?_)
  refine lv_bipush (v := 24) hx hb dX10_feed_82 (by decide) ?_
  refine lv_bipush (v := 8) hx hb dX10_feed_84 (by decide) ?_
  refine lv_iload hx hb dX10_feed_86 (lv_at hl 0 rfl) ?_
  refine lv_iconst (v := 4) hx hb dX10_feed_88 (by decide) ?_
  refine lv_irem hx hb dX10_feed_89 (by decide) ?_
  refine lv_topi (fun z_31 ez_31 => ?_)
  obtain rfl : z_31 = 3 := ez_31.trans (by decide)
  refine lv_imul hx hb dX10_feed_90 ?_
  refine lv_topi (fun z_32 ez_32 => ?_)
  obtain rfl : z_32 = 24 := ez_32.trans (by decide)
  refine lv_isub hx hb dX10_feed_91 ?_
  refine lv_topi (fun z_33 ez_33 => ?_)
  obtain rfl : z_33 = 0 := ez_33.trans (by decide)
  refine lv_ishr hx hb dX10_feed_92 ?_
  refine lv_topi (fun z_34 ez_34 => ?_)
  refine lv_i2b (v := z_34.toInt8.toInt32) hx hb dX10_feed_93 rfl ?_
  refine va_bast hx hb hK hP hD hS 1 0 rfl rfl (vp_in_lit (by decide)) dX10_feed_94 (fun H locs hP hD hS => ?_)
  have hP : va_P (dC, dI) vwCl [(h0, .inr (8, [.int 0, .ref m_world, .ref m_images, .ref m_hasImage, .ref m_luck, .ref m_tape, .int 0, .ref m_five, .int 0, .int 0, .int 0, .int 0, .int 0, .int 0, .int (-1), .ref m_fresh, .ref m_waits, .int 0, .int 0, .int 0, .ref m_figures, .ref m_pile, .long 0, .ref m_times, .ref m_far, .ref m_queue, .ref m_months, .ref m_ways, .ref m_waysOn, .ref m_many, .ref m_width, .ref m_numbers, .ref m_moving])), (m_tape, .inl (cB, 1200, .inl (upd (upd (upd (upd f (0 : Int32).toNatClampNeg (vp_nar .byte z_10.toInt8.toInt32)) (1 : Int32).toNatClampNeg (vp_nar .byte z_18.toInt8.toInt32)) (2 : Int32).toNatClampNeg (vp_nar .byte z_26.toInt8.toInt32)) (3 : Int32).toNatClampNeg (vp_nar .byte z_34.toInt8.toInt32)))), (m_five, .inl (cI, 5, .inl (upd (upd (upd (upd (upd g (0 : Int32).toNatClampNeg a1) (1 : Int32).toNatClampNeg a2) (2 : Int32).toNatClampNeg a3) (3 : Int32).toNatClampNeg a4) (4 : Int32).toNatClampNeg a5)))] H := hP
  have hD : va_D A [(h0, .inr (8, [.int 0, .ref m_world, .ref m_images, .ref m_hasImage, .ref m_luck, .ref m_tape, .int 0, .ref m_five, .int 0, .int 0, .int 0, .int 0, .int 0, .int 0, .int (-1), .ref m_fresh, .ref m_waits, .int 0, .int 0, .int 0, .ref m_figures, .ref m_pile, .long 0, .ref m_times, .ref m_far, .ref m_queue, .ref m_months, .ref m_ways, .ref m_waysOn, .ref m_many, .ref m_width, .ref m_numbers, .ref m_moving])), (m_tape, .inl (cB, 1200, .inl (upd (upd (upd (upd f (0 : Int32).toNatClampNeg (vp_nar .byte z_10.toInt8.toInt32)) (1 : Int32).toNatClampNeg (vp_nar .byte z_18.toInt8.toInt32)) (2 : Int32).toNatClampNeg (vp_nar .byte z_26.toInt8.toInt32)) (3 : Int32).toNatClampNeg (vp_nar .byte z_34.toInt8.toInt32)))), (m_five, .inl (cI, 5, .inl (upd (upd (upd (upd (upd g (0 : Int32).toNatClampNeg a1) (1 : Int32).toNatClampNeg a2) (2 : Int32).toNatClampNeg a3) (3 : Int32).toNatClampNeg a4) (4 : Int32).toNatClampNeg a5)))] := hD
  refine lv_iinc (v := 4) (lv' := [(6, .int 4), (0, .ref h0), (1, .int a1), (2, .int a2), (3, .int a3), (4, .int a4), (5, .int a5)]) hx hb dX10_feed_95 hl (k := 0) rfl (by decide) (by decide) rfl (fun ls hl => ?_)
  refine lv_goto (tgt := 55) hx hb dX10_feed_98 (by decide) ?_
  refine lv_iload hx hb dX10_feed_55 (lv_at hl 0 rfl) ?_
  refine lv_bipush (v := 20) hx hb dX10_feed_57 (by decide) ?_
  refine lv_icmp_ge (tgt := 101) hx hb dX10_feed_59 (by decide) (fun c_35 => absurd c_35 (by decide)) (fun _ => ?_)
  refine lv_aload_n hx hb dX10_feed_62 rfl (lv_at hl 1 rfl) ?_
  refine va_get (D := (dC, dI)) (ci := 8) (v := .ref m_tape) (C := RX10) (T := TX10) (N := 33) hx hb hts iX10_feed_X10 hown hK hP 0 rfl rfl 5 (by decide) (hts (.fieldLink RX10 23 "LuckyTicketModel" "tape" "[B") (List.mem_of_getElem? (i := 3) rfl)) (fun _ h9 => h9) rfl dX10_feed_63 ?_
  refine lv_aload_n hx hb dX10_feed_66 rfl (lv_at hl 1 rfl) ?_
  refine va_get (D := (dC, dI)) (ci := 8) (v := .int 0) (C := RX10) (T := TX10) (N := 33) hx hb hts iX10_feed_X10 hown hK hP 0 rfl rfl 6 (by decide) (hts (.fieldLink RX10 97 "LuckyTicketModel" "taped" "I") (List.mem_of_getElem? (i := 1) rfl)) (fun _ h9 => h9) rfl dX10_feed_67 ?_
  refine lv_iload hx hb dX10_feed_70 (lv_at hl 0 rfl) ?_
  refine lv_iadd hx hb dX10_feed_72 ?_
  refine lv_topi (fun z_36 ez_36 => ?_)
  obtain rfl : z_36 = 4 := ez_36.trans (by decide)
  refine lv_aload_n hx hb dX10_feed_73 rfl (lv_at hl 1 rfl) ?_
  refine va_get (D := (dC, dI)) (ci := 8) (v := .ref m_five) (C := RX10) (T := TX10) (N := 33) hx hb hts iX10_feed_X10 hown hK hP 0 rfl rfl 7 (by decide) (hts (.fieldLink RX10 27 "LuckyTicketModel" "five" "[I") (List.mem_of_getElem? (i := 2) rfl)) (fun _ h9 => h9) rfl dX10_feed_74 ?_
  refine lv_iload hx hb dX10_feed_77 (lv_at hl 0 rfl) ?_
  refine lv_iconst (v := 4) hx hb dX10_feed_79 (by decide) ?_
  refine lv_idiv hx hb dX10_feed_80 (by decide) ?_
  refine lv_topi (fun z_37 ez_37 => ?_)
  obtain rfl : z_37 = 1 := ez_37.trans (by decide)
  refine va_iald hx hb hK hP 2 1 rfl rfl (vp_in_lit (by decide)) dX10_feed_81 ?_
  refine lv_topi (fun z_38 ez_38 => ?_)
  refine lv_bipush (v := 24) hx hb dX10_feed_82 (by decide) ?_
  refine lv_bipush (v := 8) hx hb dX10_feed_84 (by decide) ?_
  refine lv_iload hx hb dX10_feed_86 (lv_at hl 0 rfl) ?_
  refine lv_iconst (v := 4) hx hb dX10_feed_88 (by decide) ?_
  refine lv_irem hx hb dX10_feed_89 (by decide) ?_
  refine lv_topi (fun z_39 ez_39 => ?_)
  obtain rfl : z_39 = 0 := ez_39.trans (by decide)
  refine lv_imul hx hb dX10_feed_90 ?_
  refine lv_topi (fun z_40 ez_40 => ?_)
  obtain rfl : z_40 = 0 := ez_40.trans (by decide)
  refine lv_isub hx hb dX10_feed_91 ?_
  refine lv_topi (fun z_41 ez_41 => ?_)
  obtain rfl : z_41 = 24 := ez_41.trans (by decide)
  refine lv_ishr hx hb dX10_feed_92 ?_
  refine lv_topi (fun z_42 ez_42 => ?_)
  refine lv_i2b (v := z_42.toInt8.toInt32) hx hb dX10_feed_93 rfl ?_
  refine va_bast hx hb hK hP hD hS 1 0 rfl rfl (vp_in_lit (by decide)) dX10_feed_94 (fun H locs hP hD hS => ?_)
  have hP : va_P (dC, dI) vwCl [(h0, .inr (8, [.int 0, .ref m_world, .ref m_images, .ref m_hasImage, .ref m_luck, .ref m_tape, .int 0, .ref m_five, .int 0, .int 0, .int 0, .int 0, .int 0, .int 0, .int (-1), .ref m_fresh, .ref m_waits, .int 0, .int 0, .int 0, .ref m_figures, .ref m_pile, .long 0, .ref m_times, .ref m_far, .ref m_queue, .ref m_months, .ref m_ways, .ref m_waysOn, .ref m_many, .ref m_width, .ref m_numbers, .ref m_moving])), (m_tape, .inl (cB, 1200, .inl (upd (upd (upd (upd (upd f (0 : Int32).toNatClampNeg (vp_nar .byte z_10.toInt8.toInt32)) (1 : Int32).toNatClampNeg (vp_nar .byte z_18.toInt8.toInt32)) (2 : Int32).toNatClampNeg (vp_nar .byte z_26.toInt8.toInt32)) (3 : Int32).toNatClampNeg (vp_nar .byte z_34.toInt8.toInt32)) (4 : Int32).toNatClampNeg (vp_nar .byte z_42.toInt8.toInt32)))), (m_five, .inl (cI, 5, .inl (upd (upd (upd (upd (upd g (0 : Int32).toNatClampNeg a1) (1 : Int32).toNatClampNeg a2) (2 : Int32).toNatClampNeg a3) (3 : Int32).toNatClampNeg a4) (4 : Int32).toNatClampNeg a5)))] H := hP
  have hD : va_D A [(h0, .inr (8, [.int 0, .ref m_world, .ref m_images, .ref m_hasImage, .ref m_luck, .ref m_tape, .int 0, .ref m_five, .int 0, .int 0, .int 0, .int 0, .int 0, .int 0, .int (-1), .ref m_fresh, .ref m_waits, .int 0, .int 0, .int 0, .ref m_figures, .ref m_pile, .long 0, .ref m_times, .ref m_far, .ref m_queue, .ref m_months, .ref m_ways, .ref m_waysOn, .ref m_many, .ref m_width, .ref m_numbers, .ref m_moving])), (m_tape, .inl (cB, 1200, .inl (upd (upd (upd (upd (upd f (0 : Int32).toNatClampNeg (vp_nar .byte z_10.toInt8.toInt32)) (1 : Int32).toNatClampNeg (vp_nar .byte z_18.toInt8.toInt32)) (2 : Int32).toNatClampNeg (vp_nar .byte z_26.toInt8.toInt32)) (3 : Int32).toNatClampNeg (vp_nar .byte z_34.toInt8.toInt32)) (4 : Int32).toNatClampNeg (vp_nar .byte z_42.toInt8.toInt32)))), (m_five, .inl (cI, 5, .inl (upd (upd (upd (upd (upd g (0 : Int32).toNatClampNeg a1) (1 : Int32).toNatClampNeg a2) (2 : Int32).toNatClampNeg a3) (3 : Int32).toNatClampNeg a4) (4 : Int32).toNatClampNeg a5)))] := hD
  refine lv_iinc (v := 5) (lv' := [(6, .int 5), (0, .ref h0), (1, .int a1), (2, .int a2), (3, .int a3), (4, .int a4), (5, .int a5)]) hx hb dX10_feed_95 hl (k := 0) rfl (by decide) (by decide) rfl (fun ls hl => ?_)
  refine lv_goto (tgt := 55) hx hb dX10_feed_98 (by decide) ?_
  refine lv_iload hx hb dX10_feed_55 (lv_at hl 0 rfl) ?_
  refine lv_bipush (v := 20) hx hb dX10_feed_57 (by decide) ?_
  refine lv_icmp_ge (tgt := 101) hx hb dX10_feed_59 (by decide) (fun c_43 => absurd c_43 (by decide)) (fun _ => ?_)
  refine lv_aload_n hx hb dX10_feed_62 rfl (lv_at hl 1 rfl) ?_
  refine va_get (D := (dC, dI)) (ci := 8) (v := .ref m_tape) (C := RX10) (T := TX10) (N := 33) hx hb hts iX10_feed_X10 hown hK hP 0 rfl rfl 5 (by decide) (hts (.fieldLink RX10 23 "LuckyTicketModel" "tape" "[B") (List.mem_of_getElem? (i := 3) rfl)) (fun _ h9 => h9) rfl dX10_feed_63 ?_
  refine lv_aload_n hx hb dX10_feed_66 rfl (lv_at hl 1 rfl) ?_
  refine va_get (D := (dC, dI)) (ci := 8) (v := .int 0) (C := RX10) (T := TX10) (N := 33) hx hb hts iX10_feed_X10 hown hK hP 0 rfl rfl 6 (by decide) (hts (.fieldLink RX10 97 "LuckyTicketModel" "taped" "I") (List.mem_of_getElem? (i := 1) rfl)) (fun _ h9 => h9) rfl dX10_feed_67 ?_
  refine lv_iload hx hb dX10_feed_70 (lv_at hl 0 rfl) ?_
  refine lv_iadd hx hb dX10_feed_72 ?_
  refine lv_topi (fun z_44 ez_44 => ?_)
  obtain rfl : z_44 = 5 := ez_44.trans (by decide)
  refine lv_aload_n hx hb dX10_feed_73 rfl (lv_at hl 1 rfl) ?_
  refine va_get (D := (dC, dI)) (ci := 8) (v := .ref m_five) (C := RX10) (T := TX10) (N := 33) hx hb hts iX10_feed_X10 hown hK hP 0 rfl rfl 7 (by decide) (hts (.fieldLink RX10 27 "LuckyTicketModel" "five" "[I") (List.mem_of_getElem? (i := 2) rfl)) (fun _ h9 => h9) rfl dX10_feed_74 ?_
  refine lv_iload hx hb dX10_feed_77 (lv_at hl 0 rfl) ?_
  refine lv_iconst (v := 4) hx hb dX10_feed_79 (by decide) ?_
  refine lv_idiv hx hb dX10_feed_80 (by decide) ?_
  refine lv_topi (fun z_45 ez_45 => ?_)
  obtain rfl : z_45 = 1 := ez_45.trans (by decide)
  refine va_iald hx hb hK hP 2 1 rfl rfl (vp_in_lit (by decide)) dX10_feed_81 ?_
  refine lv_topi (fun z_46 ez_46 => ?_)
  refine lv_bipush (v := 24) hx hb dX10_feed_82 (by decide) ?_
  refine lv_bipush (v := 8) hx hb dX10_feed_84 (by decide) ?_
  refine lv_iload hx hb dX10_feed_86 (lv_at hl 0 rfl) ?_
  refine lv_iconst (v := 4) hx hb dX10_feed_88 (by decide) ?_
  refine lv_irem hx hb dX10_feed_89 (by decide) ?_
  refine lv_topi (fun z_47 ez_47 => ?_)
  obtain rfl : z_47 = 1 := ez_47.trans (by decide)
  refine lv_imul hx hb dX10_feed_90 ?_
  refine lv_topi (fun z_48 ez_48 => ?_)
  obtain rfl : z_48 = 8 := ez_48.trans (by decide)
  refine lv_isub hx hb dX10_feed_91 ?_
  refine lv_topi (fun z_49 ez_49 => ?_)
  obtain rfl : z_49 = 16 := ez_49.trans (by decide)
  refine lv_ishr hx hb dX10_feed_92 ?_
  refine lv_topi (fun z_50 ez_50 => ?_)
  refine lv_i2b (v := z_50.toInt8.toInt32) hx hb dX10_feed_93 rfl ?_
  refine va_bast hx hb hK hP hD hS 1 0 rfl rfl (vp_in_lit (by decide)) dX10_feed_94 (fun H locs hP hD hS => ?_)
  have hP : va_P (dC, dI) vwCl [(h0, .inr (8, [.int 0, .ref m_world, .ref m_images, .ref m_hasImage, .ref m_luck, .ref m_tape, .int 0, .ref m_five, .int 0, .int 0, .int 0, .int 0, .int 0, .int 0, .int (-1), .ref m_fresh, .ref m_waits, .int 0, .int 0, .int 0, .ref m_figures, .ref m_pile, .long 0, .ref m_times, .ref m_far, .ref m_queue, .ref m_months, .ref m_ways, .ref m_waysOn, .ref m_many, .ref m_width, .ref m_numbers, .ref m_moving])), (m_tape, .inl (cB, 1200, .inl (upd (upd (upd (upd (upd (upd f (0 : Int32).toNatClampNeg (vp_nar .byte z_10.toInt8.toInt32)) (1 : Int32).toNatClampNeg (vp_nar .byte z_18.toInt8.toInt32)) (2 : Int32).toNatClampNeg (vp_nar .byte z_26.toInt8.toInt32)) (3 : Int32).toNatClampNeg (vp_nar .byte z_34.toInt8.toInt32)) (4 : Int32).toNatClampNeg (vp_nar .byte z_42.toInt8.toInt32)) (5 : Int32).toNatClampNeg (vp_nar .byte z_50.toInt8.toInt32)))), (m_five, .inl (cI, 5, .inl (upd (upd (upd (upd (upd g (0 : Int32).toNatClampNeg a1) (1 : Int32).toNatClampNeg a2) (2 : Int32).toNatClampNeg a3) (3 : Int32).toNatClampNeg a4) (4 : Int32).toNatClampNeg a5)))] H := hP
  have hD : va_D A [(h0, .inr (8, [.int 0, .ref m_world, .ref m_images, .ref m_hasImage, .ref m_luck, .ref m_tape, .int 0, .ref m_five, .int 0, .int 0, .int 0, .int 0, .int 0, .int 0, .int (-1), .ref m_fresh, .ref m_waits, .int 0, .int 0, .int 0, .ref m_figures, .ref m_pile, .long 0, .ref m_times, .ref m_far, .ref m_queue, .ref m_months, .ref m_ways, .ref m_waysOn, .ref m_many, .ref m_width, .ref m_numbers, .ref m_moving])), (m_tape, .inl (cB, 1200, .inl (upd (upd (upd (upd (upd (upd f (0 : Int32).toNatClampNeg (vp_nar .byte z_10.toInt8.toInt32)) (1 : Int32).toNatClampNeg (vp_nar .byte z_18.toInt8.toInt32)) (2 : Int32).toNatClampNeg (vp_nar .byte z_26.toInt8.toInt32)) (3 : Int32).toNatClampNeg (vp_nar .byte z_34.toInt8.toInt32)) (4 : Int32).toNatClampNeg (vp_nar .byte z_42.toInt8.toInt32)) (5 : Int32).toNatClampNeg (vp_nar .byte z_50.toInt8.toInt32)))), (m_five, .inl (cI, 5, .inl (upd (upd (upd (upd (upd g (0 : Int32).toNatClampNeg a1) (1 : Int32).toNatClampNeg a2) (2 : Int32).toNatClampNeg a3) (3 : Int32).toNatClampNeg a4) (4 : Int32).toNatClampNeg a5)))] := hD
  refine lv_iinc (v := 6) (lv' := [(6, .int 6), (0, .ref h0), (1, .int a1), (2, .int a2), (3, .int a3), (4, .int a4), (5, .int a5)]) hx hb dX10_feed_95 hl (k := 0) rfl (by decide) (by decide) rfl (fun ls hl => ?_)
  refine lv_goto (tgt := 55) hx hb dX10_feed_98 (by decide) ?_
  refine lv_iload hx hb dX10_feed_55 (lv_at hl 0 rfl) ?_
  refine lv_bipush (v := 20) hx hb dX10_feed_57 (by decide) ?_
  refine lv_icmp_ge (tgt := 101) hx hb dX10_feed_59 (by decide) (fun c_51 => absurd c_51 (by decide)) (fun _ => ?_)
  refine lv_aload_n hx hb dX10_feed_62 rfl (lv_at hl 1 rfl) ?_
  refine va_get (D := (dC, dI)) (ci := 8) (v := .ref m_tape) (C := RX10) (T := TX10) (N := 33) hx hb hts iX10_feed_X10 hown hK hP 0 rfl rfl 5 (by decide) (hts (.fieldLink RX10 23 "LuckyTicketModel" "tape" "[B") (List.mem_of_getElem? (i := 3) rfl)) (fun _ h9 => h9) rfl dX10_feed_63 ?_
  refine lv_aload_n hx hb dX10_feed_66 rfl (lv_at hl 1 rfl) ?_
  refine va_get (D := (dC, dI)) (ci := 8) (v := .int 0) (C := RX10) (T := TX10) (N := 33) hx hb hts iX10_feed_X10 hown hK hP 0 rfl rfl 6 (by decide) (hts (.fieldLink RX10 97 "LuckyTicketModel" "taped" "I") (List.mem_of_getElem? (i := 1) rfl)) (fun _ h9 => h9) rfl dX10_feed_67 ?_
  refine lv_iload hx hb dX10_feed_70 (lv_at hl 0 rfl) ?_
  refine lv_iadd hx hb dX10_feed_72 ?_
  refine lv_topi (fun z_52 ez_52 => ?_)
  obtain rfl : z_52 = 6 := ez_52.trans (by decide)
  refine lv_aload_n hx hb dX10_feed_73 rfl (lv_at hl 1 rfl) ?_
  refine va_get (D := (dC, dI)) (ci := 8) (v := .ref m_five) (C := RX10) (T := TX10) (N := 33) hx hb hts iX10_feed_X10 hown hK hP 0 rfl rfl 7 (by decide) (hts (.fieldLink RX10 27 "LuckyTicketModel" "five" "[I") (List.mem_of_getElem? (i := 2) rfl)) (fun _ h9 => h9) rfl dX10_feed_74 ?_
  refine lv_iload hx hb dX10_feed_77 (lv_at hl 0 rfl) ?_
  refine lv_iconst (v := 4) hx hb dX10_feed_79 (by decide) ?_
  refine lv_idiv hx hb dX10_feed_80 (by decide) ?_
  refine lv_topi (fun z_53 ez_53 => ?_)
  obtain rfl : z_53 = 1 := ez_53.trans (by decide)
  refine va_iald hx hb hK hP 2 1 rfl rfl (vp_in_lit (by decide)) dX10_feed_81 ?_
  refine lv_topi (fun z_54 ez_54 => ?_)
  refine lv_bipush (v := 24) hx hb dX10_feed_82 (by decide) ?_
  refine lv_bipush (v := 8) hx hb dX10_feed_84 (by decide) ?_
  refine lv_iload hx hb dX10_feed_86 (lv_at hl 0 rfl) ?_
  refine lv_iconst (v := 4) hx hb dX10_feed_88 (by decide) ?_
  refine lv_irem hx hb dX10_feed_89 (by decide) ?_
  refine lv_topi (fun z_55 ez_55 => ?_)
  obtain rfl : z_55 = 2 := ez_55.trans (by decide)
  refine lv_imul hx hb dX10_feed_90 ?_
  refine lv_topi (fun z_56 ez_56 => ?_)
  obtain rfl : z_56 = 16 := ez_56.trans (by decide)
  refine lv_isub hx hb dX10_feed_91 ?_
  refine lv_topi (fun z_57 ez_57 => ?_)
  obtain rfl : z_57 = 8 := ez_57.trans (by decide)
  refine lv_ishr hx hb dX10_feed_92 ?_
  refine lv_topi (fun z_58 ez_58 => ?_)
  refine lv_i2b (v := z_58.toInt8.toInt32) hx hb dX10_feed_93 rfl ?_
  refine va_bast hx hb hK hP hD hS 1 0 rfl rfl (vp_in_lit (by decide)) dX10_feed_94 (fun H locs hP hD hS => ?_)
  have hP : va_P (dC, dI) vwCl [(h0, .inr (8, [.int 0, .ref m_world, .ref m_images, .ref m_hasImage, .ref m_luck, .ref m_tape, .int 0, .ref m_five, .int 0, .int 0, .int 0, .int 0, .int 0, .int 0, .int (-1), .ref m_fresh, .ref m_waits, .int 0, .int 0, .int 0, .ref m_figures, .ref m_pile, .long 0, .ref m_times, .ref m_far, .ref m_queue, .ref m_months, .ref m_ways, .ref m_waysOn, .ref m_many, .ref m_width, .ref m_numbers, .ref m_moving])), (m_tape, .inl (cB, 1200, .inl (upd (upd (upd (upd (upd (upd (upd f (0 : Int32).toNatClampNeg (vp_nar .byte z_10.toInt8.toInt32)) (1 : Int32).toNatClampNeg (vp_nar .byte z_18.toInt8.toInt32)) (2 : Int32).toNatClampNeg (vp_nar .byte z_26.toInt8.toInt32)) (3 : Int32).toNatClampNeg (vp_nar .byte z_34.toInt8.toInt32)) (4 : Int32).toNatClampNeg (vp_nar .byte z_42.toInt8.toInt32)) (5 : Int32).toNatClampNeg (vp_nar .byte z_50.toInt8.toInt32)) (6 : Int32).toNatClampNeg (vp_nar .byte z_58.toInt8.toInt32)))), (m_five, .inl (cI, 5, .inl (upd (upd (upd (upd (upd g (0 : Int32).toNatClampNeg a1) (1 : Int32).toNatClampNeg a2) (2 : Int32).toNatClampNeg a3) (3 : Int32).toNatClampNeg a4) (4 : Int32).toNatClampNeg a5)))] H := hP
  have hD : va_D A [(h0, .inr (8, [.int 0, .ref m_world, .ref m_images, .ref m_hasImage, .ref m_luck, .ref m_tape, .int 0, .ref m_five, .int 0, .int 0, .int 0, .int 0, .int 0, .int 0, .int (-1), .ref m_fresh, .ref m_waits, .int 0, .int 0, .int 0, .ref m_figures, .ref m_pile, .long 0, .ref m_times, .ref m_far, .ref m_queue, .ref m_months, .ref m_ways, .ref m_waysOn, .ref m_many, .ref m_width, .ref m_numbers, .ref m_moving])), (m_tape, .inl (cB, 1200, .inl (upd (upd (upd (upd (upd (upd (upd f (0 : Int32).toNatClampNeg (vp_nar .byte z_10.toInt8.toInt32)) (1 : Int32).toNatClampNeg (vp_nar .byte z_18.toInt8.toInt32)) (2 : Int32).toNatClampNeg (vp_nar .byte z_26.toInt8.toInt32)) (3 : Int32).toNatClampNeg (vp_nar .byte z_34.toInt8.toInt32)) (4 : Int32).toNatClampNeg (vp_nar .byte z_42.toInt8.toInt32)) (5 : Int32).toNatClampNeg (vp_nar .byte z_50.toInt8.toInt32)) (6 : Int32).toNatClampNeg (vp_nar .byte z_58.toInt8.toInt32)))), (m_five, .inl (cI, 5, .inl (upd (upd (upd (upd (upd g (0 : Int32).toNatClampNeg a1) (1 : Int32).toNatClampNeg a2) (2 : Int32).toNatClampNeg a3) (3 : Int32).toNatClampNeg a4) (4 : Int32).toNatClampNeg a5)))] := hD
  refine lv_iinc (v := 7) (lv' := [(6, .int 7), (0, .ref h0), (1, .int a1), (2, .int a2), (3, .int a3), (4, .int a4), (5, .int a5)]) hx hb dX10_feed_95 hl (k := 0) rfl (by decide) (by decide) rfl (fun ls hl => ?_)
  refine lv_goto (tgt := 55) hx hb dX10_feed_98 (by decide) ?_
  refine lv_iload hx hb dX10_feed_55 (lv_at hl 0 rfl) ?_
  refine lv_bipush (v := 20) hx hb dX10_feed_57 (by decide) ?_
  refine lv_icmp_ge (tgt := 101) hx hb dX10_feed_59 (by decide) (fun c_59 => absurd c_59 (by decide)) (fun _ => ?_)
  refine lv_aload_n hx hb dX10_feed_62 rfl (lv_at hl 1 rfl) ?_
  refine va_get (D := (dC, dI)) (ci := 8) (v := .ref m_tape) (C := RX10) (T := TX10) (N := 33) hx hb hts iX10_feed_X10 hown hK hP 0 rfl rfl 5 (by decide) (hts (.fieldLink RX10 23 "LuckyTicketModel" "tape" "[B") (List.mem_of_getElem? (i := 3) rfl)) (fun _ h9 => h9) rfl dX10_feed_63 ?_
  refine lv_aload_n hx hb dX10_feed_66 rfl (lv_at hl 1 rfl) ?_
  refine va_get (D := (dC, dI)) (ci := 8) (v := .int 0) (C := RX10) (T := TX10) (N := 33) hx hb hts iX10_feed_X10 hown hK hP 0 rfl rfl 6 (by decide) (hts (.fieldLink RX10 97 "LuckyTicketModel" "taped" "I") (List.mem_of_getElem? (i := 1) rfl)) (fun _ h9 => h9) rfl dX10_feed_67 ?_
  refine lv_iload hx hb dX10_feed_70 (lv_at hl 0 rfl) ?_
  refine lv_iadd hx hb dX10_feed_72 ?_
  refine lv_topi (fun z_60 ez_60 => ?_)
  obtain rfl : z_60 = 7 := ez_60.trans (by decide)
  refine lv_aload_n hx hb dX10_feed_73 rfl (lv_at hl 1 rfl) ?_
  refine va_get (D := (dC, dI)) (ci := 8) (v := .ref m_five) (C := RX10) (T := TX10) (N := 33) hx hb hts iX10_feed_X10 hown hK hP 0 rfl rfl 7 (by decide) (hts (.fieldLink RX10 27 "LuckyTicketModel" "five" "[I") (List.mem_of_getElem? (i := 2) rfl)) (fun _ h9 => h9) rfl dX10_feed_74 ?_
  refine lv_iload hx hb dX10_feed_77 (lv_at hl 0 rfl) ?_
  refine lv_iconst (v := 4) hx hb dX10_feed_79 (by decide) ?_
  refine lv_idiv hx hb dX10_feed_80 (by decide) ?_
  refine lv_topi (fun z_61 ez_61 => ?_)
  obtain rfl : z_61 = 1 := ez_61.trans (by decide)
  refine va_iald hx hb hK hP 2 1 rfl rfl (vp_in_lit (by decide)) dX10_feed_81 ?_
  refine lv_topi (fun z_62 ez_62 => ?_)
  refine lv_bipush (v := 24) hx hb dX10_feed_82 (by decide) ?_
  refine lv_bipush (v := 8) hx hb dX10_feed_84 (by decide) ?_
  refine lv_iload hx hb dX10_feed_86 (lv_at hl 0 rfl) ?_
  refine lv_iconst (v := 4) hx hb dX10_feed_88 (by decide) ?_
  refine lv_irem hx hb dX10_feed_89 (by decide) ?_
  refine lv_topi (fun z_63 ez_63 => ?_)
  obtain rfl : z_63 = 3 := ez_63.trans (by decide)
  refine lv_imul hx hb dX10_feed_90 ?_
  refine lv_topi (fun z_64 ez_64 => ?_)
  obtain rfl : z_64 = 24 := ez_64.trans (by decide)
  refine lv_isub hx hb dX10_feed_91 ?_
  refine lv_topi (fun z_65 ez_65 => ?_)
  obtain rfl : z_65 = 0 := ez_65.trans (by decide)
  refine lv_ishr hx hb dX10_feed_92 ?_
  refine lv_topi (fun z_66 ez_66 => ?_)
  refine lv_i2b (v := z_66.toInt8.toInt32) hx hb dX10_feed_93 rfl ?_
  refine va_bast hx hb hK hP hD hS 1 0 rfl rfl (vp_in_lit (by decide)) dX10_feed_94 (fun H locs hP hD hS => ?_)
  have hP : va_P (dC, dI) vwCl [(h0, .inr (8, [.int 0, .ref m_world, .ref m_images, .ref m_hasImage, .ref m_luck, .ref m_tape, .int 0, .ref m_five, .int 0, .int 0, .int 0, .int 0, .int 0, .int 0, .int (-1), .ref m_fresh, .ref m_waits, .int 0, .int 0, .int 0, .ref m_figures, .ref m_pile, .long 0, .ref m_times, .ref m_far, .ref m_queue, .ref m_months, .ref m_ways, .ref m_waysOn, .ref m_many, .ref m_width, .ref m_numbers, .ref m_moving])), (m_tape, .inl (cB, 1200, .inl (upd (upd (upd (upd (upd (upd (upd (upd f (0 : Int32).toNatClampNeg (vp_nar .byte z_10.toInt8.toInt32)) (1 : Int32).toNatClampNeg (vp_nar .byte z_18.toInt8.toInt32)) (2 : Int32).toNatClampNeg (vp_nar .byte z_26.toInt8.toInt32)) (3 : Int32).toNatClampNeg (vp_nar .byte z_34.toInt8.toInt32)) (4 : Int32).toNatClampNeg (vp_nar .byte z_42.toInt8.toInt32)) (5 : Int32).toNatClampNeg (vp_nar .byte z_50.toInt8.toInt32)) (6 : Int32).toNatClampNeg (vp_nar .byte z_58.toInt8.toInt32)) (7 : Int32).toNatClampNeg (vp_nar .byte z_66.toInt8.toInt32)))), (m_five, .inl (cI, 5, .inl (upd (upd (upd (upd (upd g (0 : Int32).toNatClampNeg a1) (1 : Int32).toNatClampNeg a2) (2 : Int32).toNatClampNeg a3) (3 : Int32).toNatClampNeg a4) (4 : Int32).toNatClampNeg a5)))] H := hP
  have hD : va_D A [(h0, .inr (8, [.int 0, .ref m_world, .ref m_images, .ref m_hasImage, .ref m_luck, .ref m_tape, .int 0, .ref m_five, .int 0, .int 0, .int 0, .int 0, .int 0, .int 0, .int (-1), .ref m_fresh, .ref m_waits, .int 0, .int 0, .int 0, .ref m_figures, .ref m_pile, .long 0, .ref m_times, .ref m_far, .ref m_queue, .ref m_months, .ref m_ways, .ref m_waysOn, .ref m_many, .ref m_width, .ref m_numbers, .ref m_moving])), (m_tape, .inl (cB, 1200, .inl (upd (upd (upd (upd (upd (upd (upd (upd f (0 : Int32).toNatClampNeg (vp_nar .byte z_10.toInt8.toInt32)) (1 : Int32).toNatClampNeg (vp_nar .byte z_18.toInt8.toInt32)) (2 : Int32).toNatClampNeg (vp_nar .byte z_26.toInt8.toInt32)) (3 : Int32).toNatClampNeg (vp_nar .byte z_34.toInt8.toInt32)) (4 : Int32).toNatClampNeg (vp_nar .byte z_42.toInt8.toInt32)) (5 : Int32).toNatClampNeg (vp_nar .byte z_50.toInt8.toInt32)) (6 : Int32).toNatClampNeg (vp_nar .byte z_58.toInt8.toInt32)) (7 : Int32).toNatClampNeg (vp_nar .byte z_66.toInt8.toInt32)))), (m_five, .inl (cI, 5, .inl (upd (upd (upd (upd (upd g (0 : Int32).toNatClampNeg a1) (1 : Int32).toNatClampNeg a2) (2 : Int32).toNatClampNeg a3) (3 : Int32).toNatClampNeg a4) (4 : Int32).toNatClampNeg a5)))] := hD
  refine lv_iinc (v := 8) (lv' := [(6, .int 8), (0, .ref h0), (1, .int a1), (2, .int a2), (3, .int a3), (4, .int a4), (5, .int a5)]) hx hb dX10_feed_95 hl (k := 0) rfl (by decide) (by decide) rfl (fun ls hl => ?_)
  refine lv_goto (tgt := 55) hx hb dX10_feed_98 (by decide) ?_
  refine lv_iload hx hb dX10_feed_55 (lv_at hl 0 rfl) ?_
  refine lv_bipush (v := 20) hx hb dX10_feed_57 (by decide) ?_
  refine lv_icmp_ge (tgt := 101) hx hb dX10_feed_59 (by decide) (fun c_67 => absurd c_67 (by decide)) (fun _ => ?_)
  refine lv_aload_n hx hb dX10_feed_62 rfl (lv_at hl 1 rfl) ?_
  refine va_get (D := (dC, dI)) (ci := 8) (v := .ref m_tape) (C := RX10) (T := TX10) (N := 33) hx hb hts iX10_feed_X10 hown hK hP 0 rfl rfl 5 (by decide) (hts (.fieldLink RX10 23 "LuckyTicketModel" "tape" "[B") (List.mem_of_getElem? (i := 3) rfl)) (fun _ h9 => h9) rfl dX10_feed_63 ?_
  refine lv_aload_n hx hb dX10_feed_66 rfl (lv_at hl 1 rfl) ?_
  refine va_get (D := (dC, dI)) (ci := 8) (v := .int 0) (C := RX10) (T := TX10) (N := 33) hx hb hts iX10_feed_X10 hown hK hP 0 rfl rfl 6 (by decide) (hts (.fieldLink RX10 97 "LuckyTicketModel" "taped" "I") (List.mem_of_getElem? (i := 1) rfl)) (fun _ h9 => h9) rfl dX10_feed_67 ?_
  refine lv_iload hx hb dX10_feed_70 (lv_at hl 0 rfl) ?_
  refine lv_iadd hx hb dX10_feed_72 ?_
  refine lv_topi (fun z_68 ez_68 => ?_)
  obtain rfl : z_68 = 8 := ez_68.trans (by decide)
  refine lv_aload_n hx hb dX10_feed_73 rfl (lv_at hl 1 rfl) ?_
  refine va_get (D := (dC, dI)) (ci := 8) (v := .ref m_five) (C := RX10) (T := TX10) (N := 33) hx hb hts iX10_feed_X10 hown hK hP 0 rfl rfl 7 (by decide) (hts (.fieldLink RX10 27 "LuckyTicketModel" "five" "[I") (List.mem_of_getElem? (i := 2) rfl)) (fun _ h9 => h9) rfl dX10_feed_74 ?_
  refine lv_iload hx hb dX10_feed_77 (lv_at hl 0 rfl) ?_
  refine lv_iconst (v := 4) hx hb dX10_feed_79 (by decide) ?_
  refine lv_idiv hx hb dX10_feed_80 (by decide) ?_
  refine lv_topi (fun z_69 ez_69 => ?_)
  obtain rfl : z_69 = 2 := ez_69.trans (by decide)
  refine va_iald hx hb hK hP 2 1 rfl rfl (vp_in_lit (by decide)) dX10_feed_81 ?_
  refine lv_topi (fun z_70 ez_70 => ?_)
  refine lv_bipush (v := 24) hx hb dX10_feed_82 (by decide) ?_
  refine lv_bipush (v := 8) hx hb dX10_feed_84 (by decide) ?_
  refine lv_iload hx hb dX10_feed_86 (lv_at hl 0 rfl) ?_
  refine lv_iconst (v := 4) hx hb dX10_feed_88 (by decide) ?_
  refine lv_irem hx hb dX10_feed_89 (by decide) ?_
  refine lv_topi (fun z_71 ez_71 => ?_)
  obtain rfl : z_71 = 0 := ez_71.trans (by decide)
  refine lv_imul hx hb dX10_feed_90 ?_
  refine lv_topi (fun z_72 ez_72 => ?_)
  obtain rfl : z_72 = 0 := ez_72.trans (by decide)
  refine lv_isub hx hb dX10_feed_91 ?_
  refine lv_topi (fun z_73 ez_73 => ?_)
  obtain rfl : z_73 = 24 := ez_73.trans (by decide)
  refine lv_ishr hx hb dX10_feed_92 ?_
  refine lv_topi (fun z_74 ez_74 => ?_)
  refine lv_i2b (v := z_74.toInt8.toInt32) hx hb dX10_feed_93 rfl ?_
  refine va_bast hx hb hK hP hD hS 1 0 rfl rfl (vp_in_lit (by decide)) dX10_feed_94 (fun H locs hP hD hS => ?_)
  have hP : va_P (dC, dI) vwCl [(h0, .inr (8, [.int 0, .ref m_world, .ref m_images, .ref m_hasImage, .ref m_luck, .ref m_tape, .int 0, .ref m_five, .int 0, .int 0, .int 0, .int 0, .int 0, .int 0, .int (-1), .ref m_fresh, .ref m_waits, .int 0, .int 0, .int 0, .ref m_figures, .ref m_pile, .long 0, .ref m_times, .ref m_far, .ref m_queue, .ref m_months, .ref m_ways, .ref m_waysOn, .ref m_many, .ref m_width, .ref m_numbers, .ref m_moving])), (m_tape, .inl (cB, 1200, .inl (upd (upd (upd (upd (upd (upd (upd (upd (upd f (0 : Int32).toNatClampNeg (vp_nar .byte z_10.toInt8.toInt32)) (1 : Int32).toNatClampNeg (vp_nar .byte z_18.toInt8.toInt32)) (2 : Int32).toNatClampNeg (vp_nar .byte z_26.toInt8.toInt32)) (3 : Int32).toNatClampNeg (vp_nar .byte z_34.toInt8.toInt32)) (4 : Int32).toNatClampNeg (vp_nar .byte z_42.toInt8.toInt32)) (5 : Int32).toNatClampNeg (vp_nar .byte z_50.toInt8.toInt32)) (6 : Int32).toNatClampNeg (vp_nar .byte z_58.toInt8.toInt32)) (7 : Int32).toNatClampNeg (vp_nar .byte z_66.toInt8.toInt32)) (8 : Int32).toNatClampNeg (vp_nar .byte z_74.toInt8.toInt32)))), (m_five, .inl (cI, 5, .inl (upd (upd (upd (upd (upd g (0 : Int32).toNatClampNeg a1) (1 : Int32).toNatClampNeg a2) (2 : Int32).toNatClampNeg a3) (3 : Int32).toNatClampNeg a4) (4 : Int32).toNatClampNeg a5)))] H := hP
  have hD : va_D A [(h0, .inr (8, [.int 0, .ref m_world, .ref m_images, .ref m_hasImage, .ref m_luck, .ref m_tape, .int 0, .ref m_five, .int 0, .int 0, .int 0, .int 0, .int 0, .int 0, .int (-1), .ref m_fresh, .ref m_waits, .int 0, .int 0, .int 0, .ref m_figures, .ref m_pile, .long 0, .ref m_times, .ref m_far, .ref m_queue, .ref m_months, .ref m_ways, .ref m_waysOn, .ref m_many, .ref m_width, .ref m_numbers, .ref m_moving])), (m_tape, .inl (cB, 1200, .inl (upd (upd (upd (upd (upd (upd (upd (upd (upd f (0 : Int32).toNatClampNeg (vp_nar .byte z_10.toInt8.toInt32)) (1 : Int32).toNatClampNeg (vp_nar .byte z_18.toInt8.toInt32)) (2 : Int32).toNatClampNeg (vp_nar .byte z_26.toInt8.toInt32)) (3 : Int32).toNatClampNeg (vp_nar .byte z_34.toInt8.toInt32)) (4 : Int32).toNatClampNeg (vp_nar .byte z_42.toInt8.toInt32)) (5 : Int32).toNatClampNeg (vp_nar .byte z_50.toInt8.toInt32)) (6 : Int32).toNatClampNeg (vp_nar .byte z_58.toInt8.toInt32)) (7 : Int32).toNatClampNeg (vp_nar .byte z_66.toInt8.toInt32)) (8 : Int32).toNatClampNeg (vp_nar .byte z_74.toInt8.toInt32)))), (m_five, .inl (cI, 5, .inl (upd (upd (upd (upd (upd g (0 : Int32).toNatClampNeg a1) (1 : Int32).toNatClampNeg a2) (2 : Int32).toNatClampNeg a3) (3 : Int32).toNatClampNeg a4) (4 : Int32).toNatClampNeg a5)))] := hD
  refine lv_iinc (v := 9) (lv' := [(6, .int 9), (0, .ref h0), (1, .int a1), (2, .int a2), (3, .int a3), (4, .int a4), (5, .int a5)]) hx hb dX10_feed_95 hl (k := 0) rfl (by decide) (by decide) rfl (fun ls hl => ?_)
  refine lv_goto (tgt := 55) hx hb dX10_feed_98 (by decide) ?_
  refine lv_iload hx hb dX10_feed_55 (lv_at hl 0 rfl) ?_
  refine lv_bipush (v := 20) hx hb dX10_feed_57 (by decide) ?_
  refine lv_icmp_ge (tgt := 101) hx hb dX10_feed_59 (by decide) (fun c_75 => absurd c_75 (by decide)) (fun _ => ?_)
  refine lv_aload_n hx hb dX10_feed_62 rfl (lv_at hl 1 rfl) ?_
  refine va_get (D := (dC, dI)) (ci := 8) (v := .ref m_tape) (C := RX10) (T := TX10) (N := 33) hx hb hts iX10_feed_X10 hown hK hP 0 rfl rfl 5 (by decide) (hts (.fieldLink RX10 23 "LuckyTicketModel" "tape" "[B") (List.mem_of_getElem? (i := 3) rfl)) (fun _ h9 => h9) rfl dX10_feed_63 ?_
  refine lv_aload_n hx hb dX10_feed_66 rfl (lv_at hl 1 rfl) ?_
  refine va_get (D := (dC, dI)) (ci := 8) (v := .int 0) (C := RX10) (T := TX10) (N := 33) hx hb hts iX10_feed_X10 hown hK hP 0 rfl rfl 6 (by decide) (hts (.fieldLink RX10 97 "LuckyTicketModel" "taped" "I") (List.mem_of_getElem? (i := 1) rfl)) (fun _ h9 => h9) rfl dX10_feed_67 ?_
  refine lv_iload hx hb dX10_feed_70 (lv_at hl 0 rfl) ?_
  refine lv_iadd hx hb dX10_feed_72 ?_
  refine lv_topi (fun z_76 ez_76 => ?_)
  obtain rfl : z_76 = 9 := ez_76.trans (by decide)
  refine lv_aload_n hx hb dX10_feed_73 rfl (lv_at hl 1 rfl) ?_
  refine va_get (D := (dC, dI)) (ci := 8) (v := .ref m_five) (C := RX10) (T := TX10) (N := 33) hx hb hts iX10_feed_X10 hown hK hP 0 rfl rfl 7 (by decide) (hts (.fieldLink RX10 27 "LuckyTicketModel" "five" "[I") (List.mem_of_getElem? (i := 2) rfl)) (fun _ h9 => h9) rfl dX10_feed_74 ?_
  refine lv_iload hx hb dX10_feed_77 (lv_at hl 0 rfl) ?_
  refine lv_iconst (v := 4) hx hb dX10_feed_79 (by decide) ?_
  refine lv_idiv hx hb dX10_feed_80 (by decide) ?_
  refine lv_topi (fun z_77 ez_77 => ?_)
  obtain rfl : z_77 = 2 := ez_77.trans (by decide)
  refine va_iald hx hb hK hP 2 1 rfl rfl (vp_in_lit (by decide)) dX10_feed_81 ?_
  refine lv_topi (fun z_78 ez_78 => ?_)
  refine lv_bipush (v := 24) hx hb dX10_feed_82 (by decide) ?_
  refine lv_bipush (v := 8) hx hb dX10_feed_84 (by decide) ?_
  refine lv_iload hx hb dX10_feed_86 (lv_at hl 0 rfl) ?_
  refine lv_iconst (v := 4) hx hb dX10_feed_88 (by decide) ?_
  refine lv_irem hx hb dX10_feed_89 (by decide) ?_
  refine lv_topi (fun z_79 ez_79 => ?_)
  obtain rfl : z_79 = 1 := ez_79.trans (by decide)
  refine lv_imul hx hb dX10_feed_90 ?_
  refine lv_topi (fun z_80 ez_80 => ?_)
  obtain rfl : z_80 = 8 := ez_80.trans (by decide)
  refine lv_isub hx hb dX10_feed_91 ?_
  refine lv_topi (fun z_81 ez_81 => ?_)
  obtain rfl : z_81 = 16 := ez_81.trans (by decide)
  refine lv_ishr hx hb dX10_feed_92 ?_
  refine lv_topi (fun z_82 ez_82 => ?_)
  refine lv_i2b (v := z_82.toInt8.toInt32) hx hb dX10_feed_93 rfl ?_
  refine va_bast hx hb hK hP hD hS 1 0 rfl rfl (vp_in_lit (by decide)) dX10_feed_94 (fun H locs hP hD hS => ?_)
  have hP : va_P (dC, dI) vwCl [(h0, .inr (8, [.int 0, .ref m_world, .ref m_images, .ref m_hasImage, .ref m_luck, .ref m_tape, .int 0, .ref m_five, .int 0, .int 0, .int 0, .int 0, .int 0, .int 0, .int (-1), .ref m_fresh, .ref m_waits, .int 0, .int 0, .int 0, .ref m_figures, .ref m_pile, .long 0, .ref m_times, .ref m_far, .ref m_queue, .ref m_months, .ref m_ways, .ref m_waysOn, .ref m_many, .ref m_width, .ref m_numbers, .ref m_moving])), (m_tape, .inl (cB, 1200, .inl (upd (upd (upd (upd (upd (upd (upd (upd (upd (upd f (0 : Int32).toNatClampNeg (vp_nar .byte z_10.toInt8.toInt32)) (1 : Int32).toNatClampNeg (vp_nar .byte z_18.toInt8.toInt32)) (2 : Int32).toNatClampNeg (vp_nar .byte z_26.toInt8.toInt32)) (3 : Int32).toNatClampNeg (vp_nar .byte z_34.toInt8.toInt32)) (4 : Int32).toNatClampNeg (vp_nar .byte z_42.toInt8.toInt32)) (5 : Int32).toNatClampNeg (vp_nar .byte z_50.toInt8.toInt32)) (6 : Int32).toNatClampNeg (vp_nar .byte z_58.toInt8.toInt32)) (7 : Int32).toNatClampNeg (vp_nar .byte z_66.toInt8.toInt32)) (8 : Int32).toNatClampNeg (vp_nar .byte z_74.toInt8.toInt32)) (9 : Int32).toNatClampNeg (vp_nar .byte z_82.toInt8.toInt32)))), (m_five, .inl (cI, 5, .inl (upd (upd (upd (upd (upd g (0 : Int32).toNatClampNeg a1) (1 : Int32).toNatClampNeg a2) (2 : Int32).toNatClampNeg a3) (3 : Int32).toNatClampNeg a4) (4 : Int32).toNatClampNeg a5)))] H := hP
  have hD : va_D A [(h0, .inr (8, [.int 0, .ref m_world, .ref m_images, .ref m_hasImage, .ref m_luck, .ref m_tape, .int 0, .ref m_five, .int 0, .int 0, .int 0, .int 0, .int 0, .int 0, .int (-1), .ref m_fresh, .ref m_waits, .int 0, .int 0, .int 0, .ref m_figures, .ref m_pile, .long 0, .ref m_times, .ref m_far, .ref m_queue, .ref m_months, .ref m_ways, .ref m_waysOn, .ref m_many, .ref m_width, .ref m_numbers, .ref m_moving])), (m_tape, .inl (cB, 1200, .inl (upd (upd (upd (upd (upd (upd (upd (upd (upd (upd f (0 : Int32).toNatClampNeg (vp_nar .byte z_10.toInt8.toInt32)) (1 : Int32).toNatClampNeg (vp_nar .byte z_18.toInt8.toInt32)) (2 : Int32).toNatClampNeg (vp_nar .byte z_26.toInt8.toInt32)) (3 : Int32).toNatClampNeg (vp_nar .byte z_34.toInt8.toInt32)) (4 : Int32).toNatClampNeg (vp_nar .byte z_42.toInt8.toInt32)) (5 : Int32).toNatClampNeg (vp_nar .byte z_50.toInt8.toInt32)) (6 : Int32).toNatClampNeg (vp_nar .byte z_58.toInt8.toInt32)) (7 : Int32).toNatClampNeg (vp_nar .byte z_66.toInt8.toInt32)) (8 : Int32).toNatClampNeg (vp_nar .byte z_74.toInt8.toInt32)) (9 : Int32).toNatClampNeg (vp_nar .byte z_82.toInt8.toInt32)))), (m_five, .inl (cI, 5, .inl (upd (upd (upd (upd (upd g (0 : Int32).toNatClampNeg a1) (1 : Int32).toNatClampNeg a2) (2 : Int32).toNatClampNeg a3) (3 : Int32).toNatClampNeg a4) (4 : Int32).toNatClampNeg a5)))] := hD
  refine lv_iinc (v := 10) (lv' := [(6, .int 10), (0, .ref h0), (1, .int a1), (2, .int a2), (3, .int a3), (4, .int a4), (5, .int a5)]) hx hb dX10_feed_95 hl (k := 0) rfl (by decide) (by decide) rfl (fun ls hl => ?_)
  refine lv_goto (tgt := 55) hx hb dX10_feed_98 (by decide) ?_
  refine lv_iload hx hb dX10_feed_55 (lv_at hl 0 rfl) ?_
  refine lv_bipush (v := 20) hx hb dX10_feed_57 (by decide) ?_
  refine lv_icmp_ge (tgt := 101) hx hb dX10_feed_59 (by decide) (fun c_83 => absurd c_83 (by decide)) (fun _ => ?_)
  refine lv_aload_n hx hb dX10_feed_62 rfl (lv_at hl 1 rfl) ?_
  refine va_get (D := (dC, dI)) (ci := 8) (v := .ref m_tape) (C := RX10) (T := TX10) (N := 33) hx hb hts iX10_feed_X10 hown hK hP 0 rfl rfl 5 (by decide) (hts (.fieldLink RX10 23 "LuckyTicketModel" "tape" "[B") (List.mem_of_getElem? (i := 3) rfl)) (fun _ h9 => h9) rfl dX10_feed_63 ?_
  refine lv_aload_n hx hb dX10_feed_66 rfl (lv_at hl 1 rfl) ?_
  refine va_get (D := (dC, dI)) (ci := 8) (v := .int 0) (C := RX10) (T := TX10) (N := 33) hx hb hts iX10_feed_X10 hown hK hP 0 rfl rfl 6 (by decide) (hts (.fieldLink RX10 97 "LuckyTicketModel" "taped" "I") (List.mem_of_getElem? (i := 1) rfl)) (fun _ h9 => h9) rfl dX10_feed_67 ?_
  refine lv_iload hx hb dX10_feed_70 (lv_at hl 0 rfl) ?_
  refine lv_iadd hx hb dX10_feed_72 ?_
  refine lv_topi (fun z_84 ez_84 => ?_)
  obtain rfl : z_84 = 10 := ez_84.trans (by decide)
  refine lv_aload_n hx hb dX10_feed_73 rfl (lv_at hl 1 rfl) ?_
  refine va_get (D := (dC, dI)) (ci := 8) (v := .ref m_five) (C := RX10) (T := TX10) (N := 33) hx hb hts iX10_feed_X10 hown hK hP 0 rfl rfl 7 (by decide) (hts (.fieldLink RX10 27 "LuckyTicketModel" "five" "[I") (List.mem_of_getElem? (i := 2) rfl)) (fun _ h9 => h9) rfl dX10_feed_74 ?_
  refine lv_iload hx hb dX10_feed_77 (lv_at hl 0 rfl) ?_
  refine lv_iconst (v := 4) hx hb dX10_feed_79 (by decide) ?_
  refine lv_idiv hx hb dX10_feed_80 (by decide) ?_
  refine lv_topi (fun z_85 ez_85 => ?_)
  obtain rfl : z_85 = 2 := ez_85.trans (by decide)
  refine va_iald hx hb hK hP 2 1 rfl rfl (vp_in_lit (by decide)) dX10_feed_81 ?_
  refine lv_topi (fun z_86 ez_86 => ?_)
  refine lv_bipush (v := 24) hx hb dX10_feed_82 (by decide) ?_
  refine lv_bipush (v := 8) hx hb dX10_feed_84 (by decide) ?_
  refine lv_iload hx hb dX10_feed_86 (lv_at hl 0 rfl) ?_
  refine lv_iconst (v := 4) hx hb dX10_feed_88 (by decide) ?_
  refine lv_irem hx hb dX10_feed_89 (by decide) ?_
  refine lv_topi (fun z_87 ez_87 => ?_)
  obtain rfl : z_87 = 2 := ez_87.trans (by decide)
  refine lv_imul hx hb dX10_feed_90 ?_
  refine lv_topi (fun z_88 ez_88 => ?_)
  obtain rfl : z_88 = 16 := ez_88.trans (by decide)
  refine lv_isub hx hb dX10_feed_91 ?_
  refine lv_topi (fun z_89 ez_89 => ?_)
  obtain rfl : z_89 = 8 := ez_89.trans (by decide)
  refine lv_ishr hx hb dX10_feed_92 ?_
  refine lv_topi (fun z_90 ez_90 => ?_)
  refine lv_i2b (v := z_90.toInt8.toInt32) hx hb dX10_feed_93 rfl ?_
  refine va_bast hx hb hK hP hD hS 1 0 rfl rfl (vp_in_lit (by decide)) dX10_feed_94 (fun H locs hP hD hS => ?_)
  have hP : va_P (dC, dI) vwCl [(h0, .inr (8, [.int 0, .ref m_world, .ref m_images, .ref m_hasImage, .ref m_luck, .ref m_tape, .int 0, .ref m_five, .int 0, .int 0, .int 0, .int 0, .int 0, .int 0, .int (-1), .ref m_fresh, .ref m_waits, .int 0, .int 0, .int 0, .ref m_figures, .ref m_pile, .long 0, .ref m_times, .ref m_far, .ref m_queue, .ref m_months, .ref m_ways, .ref m_waysOn, .ref m_many, .ref m_width, .ref m_numbers, .ref m_moving])), (m_tape, .inl (cB, 1200, .inl (upd (upd (upd (upd (upd (upd (upd (upd (upd (upd (upd f (0 : Int32).toNatClampNeg (vp_nar .byte z_10.toInt8.toInt32)) (1 : Int32).toNatClampNeg (vp_nar .byte z_18.toInt8.toInt32)) (2 : Int32).toNatClampNeg (vp_nar .byte z_26.toInt8.toInt32)) (3 : Int32).toNatClampNeg (vp_nar .byte z_34.toInt8.toInt32)) (4 : Int32).toNatClampNeg (vp_nar .byte z_42.toInt8.toInt32)) (5 : Int32).toNatClampNeg (vp_nar .byte z_50.toInt8.toInt32)) (6 : Int32).toNatClampNeg (vp_nar .byte z_58.toInt8.toInt32)) (7 : Int32).toNatClampNeg (vp_nar .byte z_66.toInt8.toInt32)) (8 : Int32).toNatClampNeg (vp_nar .byte z_74.toInt8.toInt32)) (9 : Int32).toNatClampNeg (vp_nar .byte z_82.toInt8.toInt32)) (10 : Int32).toNatClampNeg (vp_nar .byte z_90.toInt8.toInt32)))), (m_five, .inl (cI, 5, .inl (upd (upd (upd (upd (upd g (0 : Int32).toNatClampNeg a1) (1 : Int32).toNatClampNeg a2) (2 : Int32).toNatClampNeg a3) (3 : Int32).toNatClampNeg a4) (4 : Int32).toNatClampNeg a5)))] H := hP
  have hD : va_D A [(h0, .inr (8, [.int 0, .ref m_world, .ref m_images, .ref m_hasImage, .ref m_luck, .ref m_tape, .int 0, .ref m_five, .int 0, .int 0, .int 0, .int 0, .int 0, .int 0, .int (-1), .ref m_fresh, .ref m_waits, .int 0, .int 0, .int 0, .ref m_figures, .ref m_pile, .long 0, .ref m_times, .ref m_far, .ref m_queue, .ref m_months, .ref m_ways, .ref m_waysOn, .ref m_many, .ref m_width, .ref m_numbers, .ref m_moving])), (m_tape, .inl (cB, 1200, .inl (upd (upd (upd (upd (upd (upd (upd (upd (upd (upd (upd f (0 : Int32).toNatClampNeg (vp_nar .byte z_10.toInt8.toInt32)) (1 : Int32).toNatClampNeg (vp_nar .byte z_18.toInt8.toInt32)) (2 : Int32).toNatClampNeg (vp_nar .byte z_26.toInt8.toInt32)) (3 : Int32).toNatClampNeg (vp_nar .byte z_34.toInt8.toInt32)) (4 : Int32).toNatClampNeg (vp_nar .byte z_42.toInt8.toInt32)) (5 : Int32).toNatClampNeg (vp_nar .byte z_50.toInt8.toInt32)) (6 : Int32).toNatClampNeg (vp_nar .byte z_58.toInt8.toInt32)) (7 : Int32).toNatClampNeg (vp_nar .byte z_66.toInt8.toInt32)) (8 : Int32).toNatClampNeg (vp_nar .byte z_74.toInt8.toInt32)) (9 : Int32).toNatClampNeg (vp_nar .byte z_82.toInt8.toInt32)) (10 : Int32).toNatClampNeg (vp_nar .byte z_90.toInt8.toInt32)))), (m_five, .inl (cI, 5, .inl (upd (upd (upd (upd (upd g (0 : Int32).toNatClampNeg a1) (1 : Int32).toNatClampNeg a2) (2 : Int32).toNatClampNeg a3) (3 : Int32).toNatClampNeg a4) (4 : Int32).toNatClampNeg a5)))] := hD
  refine lv_iinc (v := 11) (lv' := [(6, .int 11), (0, .ref h0), (1, .int a1), (2, .int a2), (3, .int a3), (4, .int a4), (5, .int a5)]) hx hb dX10_feed_95 hl (k := 0) rfl (by decide) (by decide) rfl (fun ls hl => ?_)
  refine lv_goto (tgt := 55) hx hb dX10_feed_98 (by decide) ?_
  refine lv_iload hx hb dX10_feed_55 (lv_at hl 0 rfl) ?_
  refine lv_bipush (v := 20) hx hb dX10_feed_57 (by decide) ?_
  refine lv_icmp_ge (tgt := 101) hx hb dX10_feed_59 (by decide) (fun c_91 => absurd c_91 (by decide)) (fun _ => ?_)
  refine lv_aload_n hx hb dX10_feed_62 rfl (lv_at hl 1 rfl) ?_
  refine va_get (D := (dC, dI)) (ci := 8) (v := .ref m_tape) (C := RX10) (T := TX10) (N := 33) hx hb hts iX10_feed_X10 hown hK hP 0 rfl rfl 5 (by decide) (hts (.fieldLink RX10 23 "LuckyTicketModel" "tape" "[B") (List.mem_of_getElem? (i := 3) rfl)) (fun _ h9 => h9) rfl dX10_feed_63 ?_
  refine lv_aload_n hx hb dX10_feed_66 rfl (lv_at hl 1 rfl) ?_
  refine va_get (D := (dC, dI)) (ci := 8) (v := .int 0) (C := RX10) (T := TX10) (N := 33) hx hb hts iX10_feed_X10 hown hK hP 0 rfl rfl 6 (by decide) (hts (.fieldLink RX10 97 "LuckyTicketModel" "taped" "I") (List.mem_of_getElem? (i := 1) rfl)) (fun _ h9 => h9) rfl dX10_feed_67 ?_
  refine lv_iload hx hb dX10_feed_70 (lv_at hl 0 rfl) ?_
  refine lv_iadd hx hb dX10_feed_72 ?_
  refine lv_topi (fun z_92 ez_92 => ?_)
  obtain rfl : z_92 = 11 := ez_92.trans (by decide)
  refine lv_aload_n hx hb dX10_feed_73 rfl (lv_at hl 1 rfl) ?_
  refine va_get (D := (dC, dI)) (ci := 8) (v := .ref m_five) (C := RX10) (T := TX10) (N := 33) hx hb hts iX10_feed_X10 hown hK hP 0 rfl rfl 7 (by decide) (hts (.fieldLink RX10 27 "LuckyTicketModel" "five" "[I") (List.mem_of_getElem? (i := 2) rfl)) (fun _ h9 => h9) rfl dX10_feed_74 ?_
  refine lv_iload hx hb dX10_feed_77 (lv_at hl 0 rfl) ?_
  refine lv_iconst (v := 4) hx hb dX10_feed_79 (by decide) ?_
  refine lv_idiv hx hb dX10_feed_80 (by decide) ?_
  refine lv_topi (fun z_93 ez_93 => ?_)
  obtain rfl : z_93 = 2 := ez_93.trans (by decide)
  refine va_iald hx hb hK hP 2 1 rfl rfl (vp_in_lit (by decide)) dX10_feed_81 ?_
  refine lv_topi (fun z_94 ez_94 => ?_)
  refine lv_bipush (v := 24) hx hb dX10_feed_82 (by decide) ?_
  refine lv_bipush (v := 8) hx hb dX10_feed_84 (by decide) ?_
  refine lv_iload hx hb dX10_feed_86 (lv_at hl 0 rfl) ?_
  refine lv_iconst (v := 4) hx hb dX10_feed_88 (by decide) ?_
  refine lv_irem hx hb dX10_feed_89 (by decide) ?_
  refine lv_topi (fun z_95 ez_95 => ?_)
  obtain rfl : z_95 = 3 := ez_95.trans (by decide)
  refine lv_imul hx hb dX10_feed_90 ?_
  refine lv_topi (fun z_96 ez_96 => ?_)
  obtain rfl : z_96 = 24 := ez_96.trans (by decide)
  refine lv_isub hx hb dX10_feed_91 ?_
  refine lv_topi (fun z_97 ez_97 => ?_)
  obtain rfl : z_97 = 0 := ez_97.trans (by decide)
  refine lv_ishr hx hb dX10_feed_92 ?_
  refine lv_topi (fun z_98 ez_98 => ?_)
  refine lv_i2b (v := z_98.toInt8.toInt32) hx hb dX10_feed_93 rfl ?_
  refine va_bast hx hb hK hP hD hS 1 0 rfl rfl (vp_in_lit (by decide)) dX10_feed_94 (fun H locs hP hD hS => ?_)
  have hP : va_P (dC, dI) vwCl [(h0, .inr (8, [.int 0, .ref m_world, .ref m_images, .ref m_hasImage, .ref m_luck, .ref m_tape, .int 0, .ref m_five, .int 0, .int 0, .int 0, .int 0, .int 0, .int 0, .int (-1), .ref m_fresh, .ref m_waits, .int 0, .int 0, .int 0, .ref m_figures, .ref m_pile, .long 0, .ref m_times, .ref m_far, .ref m_queue, .ref m_months, .ref m_ways, .ref m_waysOn, .ref m_many, .ref m_width, .ref m_numbers, .ref m_moving])), (m_tape, .inl (cB, 1200, .inl (upd (upd (upd (upd (upd (upd (upd (upd (upd (upd (upd (upd f (0 : Int32).toNatClampNeg (vp_nar .byte z_10.toInt8.toInt32)) (1 : Int32).toNatClampNeg (vp_nar .byte z_18.toInt8.toInt32)) (2 : Int32).toNatClampNeg (vp_nar .byte z_26.toInt8.toInt32)) (3 : Int32).toNatClampNeg (vp_nar .byte z_34.toInt8.toInt32)) (4 : Int32).toNatClampNeg (vp_nar .byte z_42.toInt8.toInt32)) (5 : Int32).toNatClampNeg (vp_nar .byte z_50.toInt8.toInt32)) (6 : Int32).toNatClampNeg (vp_nar .byte z_58.toInt8.toInt32)) (7 : Int32).toNatClampNeg (vp_nar .byte z_66.toInt8.toInt32)) (8 : Int32).toNatClampNeg (vp_nar .byte z_74.toInt8.toInt32)) (9 : Int32).toNatClampNeg (vp_nar .byte z_82.toInt8.toInt32)) (10 : Int32).toNatClampNeg (vp_nar .byte z_90.toInt8.toInt32)) (11 : Int32).toNatClampNeg (vp_nar .byte z_98.toInt8.toInt32)))), (m_five, .inl (cI, 5, .inl (upd (upd (upd (upd (upd g (0 : Int32).toNatClampNeg a1) (1 : Int32).toNatClampNeg a2) (2 : Int32).toNatClampNeg a3) (3 : Int32).toNatClampNeg a4) (4 : Int32).toNatClampNeg a5)))] H := hP
  have hD : va_D A [(h0, .inr (8, [.int 0, .ref m_world, .ref m_images, .ref m_hasImage, .ref m_luck, .ref m_tape, .int 0, .ref m_five, .int 0, .int 0, .int 0, .int 0, .int 0, .int 0, .int (-1), .ref m_fresh, .ref m_waits, .int 0, .int 0, .int 0, .ref m_figures, .ref m_pile, .long 0, .ref m_times, .ref m_far, .ref m_queue, .ref m_months, .ref m_ways, .ref m_waysOn, .ref m_many, .ref m_width, .ref m_numbers, .ref m_moving])), (m_tape, .inl (cB, 1200, .inl (upd (upd (upd (upd (upd (upd (upd (upd (upd (upd (upd (upd f (0 : Int32).toNatClampNeg (vp_nar .byte z_10.toInt8.toInt32)) (1 : Int32).toNatClampNeg (vp_nar .byte z_18.toInt8.toInt32)) (2 : Int32).toNatClampNeg (vp_nar .byte z_26.toInt8.toInt32)) (3 : Int32).toNatClampNeg (vp_nar .byte z_34.toInt8.toInt32)) (4 : Int32).toNatClampNeg (vp_nar .byte z_42.toInt8.toInt32)) (5 : Int32).toNatClampNeg (vp_nar .byte z_50.toInt8.toInt32)) (6 : Int32).toNatClampNeg (vp_nar .byte z_58.toInt8.toInt32)) (7 : Int32).toNatClampNeg (vp_nar .byte z_66.toInt8.toInt32)) (8 : Int32).toNatClampNeg (vp_nar .byte z_74.toInt8.toInt32)) (9 : Int32).toNatClampNeg (vp_nar .byte z_82.toInt8.toInt32)) (10 : Int32).toNatClampNeg (vp_nar .byte z_90.toInt8.toInt32)) (11 : Int32).toNatClampNeg (vp_nar .byte z_98.toInt8.toInt32)))), (m_five, .inl (cI, 5, .inl (upd (upd (upd (upd (upd g (0 : Int32).toNatClampNeg a1) (1 : Int32).toNatClampNeg a2) (2 : Int32).toNatClampNeg a3) (3 : Int32).toNatClampNeg a4) (4 : Int32).toNatClampNeg a5)))] := hD
  refine lv_iinc (v := 12) (lv' := [(6, .int 12), (0, .ref h0), (1, .int a1), (2, .int a2), (3, .int a3), (4, .int a4), (5, .int a5)]) hx hb dX10_feed_95 hl (k := 0) rfl (by decide) (by decide) rfl (fun ls hl => ?_)
  refine lv_goto (tgt := 55) hx hb dX10_feed_98 (by decide) ?_
  refine lv_iload hx hb dX10_feed_55 (lv_at hl 0 rfl) ?_
  refine lv_bipush (v := 20) hx hb dX10_feed_57 (by decide) ?_
  refine lv_icmp_ge (tgt := 101) hx hb dX10_feed_59 (by decide) (fun c_99 => absurd c_99 (by decide)) (fun _ => ?_)
  refine lv_aload_n hx hb dX10_feed_62 rfl (lv_at hl 1 rfl) ?_
  refine va_get (D := (dC, dI)) (ci := 8) (v := .ref m_tape) (C := RX10) (T := TX10) (N := 33) hx hb hts iX10_feed_X10 hown hK hP 0 rfl rfl 5 (by decide) (hts (.fieldLink RX10 23 "LuckyTicketModel" "tape" "[B") (List.mem_of_getElem? (i := 3) rfl)) (fun _ h9 => h9) rfl dX10_feed_63 ?_
  refine lv_aload_n hx hb dX10_feed_66 rfl (lv_at hl 1 rfl) ?_
  refine va_get (D := (dC, dI)) (ci := 8) (v := .int 0) (C := RX10) (T := TX10) (N := 33) hx hb hts iX10_feed_X10 hown hK hP 0 rfl rfl 6 (by decide) (hts (.fieldLink RX10 97 "LuckyTicketModel" "taped" "I") (List.mem_of_getElem? (i := 1) rfl)) (fun _ h9 => h9) rfl dX10_feed_67 ?_
  refine lv_iload hx hb dX10_feed_70 (lv_at hl 0 rfl) ?_
  refine lv_iadd hx hb dX10_feed_72 ?_
  refine lv_topi (fun z_100 ez_100 => ?_)
  obtain rfl : z_100 = 12 := ez_100.trans (by decide)
  refine lv_aload_n hx hb dX10_feed_73 rfl (lv_at hl 1 rfl) ?_
  refine va_get (D := (dC, dI)) (ci := 8) (v := .ref m_five) (C := RX10) (T := TX10) (N := 33) hx hb hts iX10_feed_X10 hown hK hP 0 rfl rfl 7 (by decide) (hts (.fieldLink RX10 27 "LuckyTicketModel" "five" "[I") (List.mem_of_getElem? (i := 2) rfl)) (fun _ h9 => h9) rfl dX10_feed_74 ?_
  refine lv_iload hx hb dX10_feed_77 (lv_at hl 0 rfl) ?_
  refine lv_iconst (v := 4) hx hb dX10_feed_79 (by decide) ?_
  refine lv_idiv hx hb dX10_feed_80 (by decide) ?_
  refine lv_topi (fun z_101 ez_101 => ?_)
  obtain rfl : z_101 = 3 := ez_101.trans (by decide)
  refine va_iald hx hb hK hP 2 1 rfl rfl (vp_in_lit (by decide)) dX10_feed_81 ?_
  refine lv_topi (fun z_102 ez_102 => ?_)
  refine lv_bipush (v := 24) hx hb dX10_feed_82 (by decide) ?_
  refine lv_bipush (v := 8) hx hb dX10_feed_84 (by decide) ?_
  refine lv_iload hx hb dX10_feed_86 (lv_at hl 0 rfl) ?_
  refine lv_iconst (v := 4) hx hb dX10_feed_88 (by decide) ?_
  refine lv_irem hx hb dX10_feed_89 (by decide) ?_
  refine lv_topi (fun z_103 ez_103 => ?_)
  obtain rfl : z_103 = 0 := ez_103.trans (by decide)
  refine lv_imul hx hb dX10_feed_90 ?_
  refine lv_topi (fun z_104 ez_104 => ?_)
  obtain rfl : z_104 = 0 := ez_104.trans (by decide)
  refine lv_isub hx hb dX10_feed_91 ?_
  refine lv_topi (fun z_105 ez_105 => ?_)
  obtain rfl : z_105 = 24 := ez_105.trans (by decide)
  refine lv_ishr hx hb dX10_feed_92 ?_
  refine lv_topi (fun z_106 ez_106 => ?_)
  refine lv_i2b (v := z_106.toInt8.toInt32) hx hb dX10_feed_93 rfl ?_
  refine va_bast hx hb hK hP hD hS 1 0 rfl rfl (vp_in_lit (by decide)) dX10_feed_94 (fun H locs hP hD hS => ?_)
  have hP : va_P (dC, dI) vwCl [(h0, .inr (8, [.int 0, .ref m_world, .ref m_images, .ref m_hasImage, .ref m_luck, .ref m_tape, .int 0, .ref m_five, .int 0, .int 0, .int 0, .int 0, .int 0, .int 0, .int (-1), .ref m_fresh, .ref m_waits, .int 0, .int 0, .int 0, .ref m_figures, .ref m_pile, .long 0, .ref m_times, .ref m_far, .ref m_queue, .ref m_months, .ref m_ways, .ref m_waysOn, .ref m_many, .ref m_width, .ref m_numbers, .ref m_moving])), (m_tape, .inl (cB, 1200, .inl (upd (upd (upd (upd (upd (upd (upd (upd (upd (upd (upd (upd (upd f (0 : Int32).toNatClampNeg (vp_nar .byte z_10.toInt8.toInt32)) (1 : Int32).toNatClampNeg (vp_nar .byte z_18.toInt8.toInt32)) (2 : Int32).toNatClampNeg (vp_nar .byte z_26.toInt8.toInt32)) (3 : Int32).toNatClampNeg (vp_nar .byte z_34.toInt8.toInt32)) (4 : Int32).toNatClampNeg (vp_nar .byte z_42.toInt8.toInt32)) (5 : Int32).toNatClampNeg (vp_nar .byte z_50.toInt8.toInt32)) (6 : Int32).toNatClampNeg (vp_nar .byte z_58.toInt8.toInt32)) (7 : Int32).toNatClampNeg (vp_nar .byte z_66.toInt8.toInt32)) (8 : Int32).toNatClampNeg (vp_nar .byte z_74.toInt8.toInt32)) (9 : Int32).toNatClampNeg (vp_nar .byte z_82.toInt8.toInt32)) (10 : Int32).toNatClampNeg (vp_nar .byte z_90.toInt8.toInt32)) (11 : Int32).toNatClampNeg (vp_nar .byte z_98.toInt8.toInt32)) (12 : Int32).toNatClampNeg (vp_nar .byte z_106.toInt8.toInt32)))), (m_five, .inl (cI, 5, .inl (upd (upd (upd (upd (upd g (0 : Int32).toNatClampNeg a1) (1 : Int32).toNatClampNeg a2) (2 : Int32).toNatClampNeg a3) (3 : Int32).toNatClampNeg a4) (4 : Int32).toNatClampNeg a5)))] H := hP
  have hD : va_D A [(h0, .inr (8, [.int 0, .ref m_world, .ref m_images, .ref m_hasImage, .ref m_luck, .ref m_tape, .int 0, .ref m_five, .int 0, .int 0, .int 0, .int 0, .int 0, .int 0, .int (-1), .ref m_fresh, .ref m_waits, .int 0, .int 0, .int 0, .ref m_figures, .ref m_pile, .long 0, .ref m_times, .ref m_far, .ref m_queue, .ref m_months, .ref m_ways, .ref m_waysOn, .ref m_many, .ref m_width, .ref m_numbers, .ref m_moving])), (m_tape, .inl (cB, 1200, .inl (upd (upd (upd (upd (upd (upd (upd (upd (upd (upd (upd (upd (upd f (0 : Int32).toNatClampNeg (vp_nar .byte z_10.toInt8.toInt32)) (1 : Int32).toNatClampNeg (vp_nar .byte z_18.toInt8.toInt32)) (2 : Int32).toNatClampNeg (vp_nar .byte z_26.toInt8.toInt32)) (3 : Int32).toNatClampNeg (vp_nar .byte z_34.toInt8.toInt32)) (4 : Int32).toNatClampNeg (vp_nar .byte z_42.toInt8.toInt32)) (5 : Int32).toNatClampNeg (vp_nar .byte z_50.toInt8.toInt32)) (6 : Int32).toNatClampNeg (vp_nar .byte z_58.toInt8.toInt32)) (7 : Int32).toNatClampNeg (vp_nar .byte z_66.toInt8.toInt32)) (8 : Int32).toNatClampNeg (vp_nar .byte z_74.toInt8.toInt32)) (9 : Int32).toNatClampNeg (vp_nar .byte z_82.toInt8.toInt32)) (10 : Int32).toNatClampNeg (vp_nar .byte z_90.toInt8.toInt32)) (11 : Int32).toNatClampNeg (vp_nar .byte z_98.toInt8.toInt32)) (12 : Int32).toNatClampNeg (vp_nar .byte z_106.toInt8.toInt32)))), (m_five, .inl (cI, 5, .inl (upd (upd (upd (upd (upd g (0 : Int32).toNatClampNeg a1) (1 : Int32).toNatClampNeg a2) (2 : Int32).toNatClampNeg a3) (3 : Int32).toNatClampNeg a4) (4 : Int32).toNatClampNeg a5)))] := hD
  refine lv_iinc (v := 13) (lv' := [(6, .int 13), (0, .ref h0), (1, .int a1), (2, .int a2), (3, .int a3), (4, .int a4), (5, .int a5)]) hx hb dX10_feed_95 hl (k := 0) rfl (by decide) (by decide) rfl (fun ls hl => ?_)
  refine lv_goto (tgt := 55) hx hb dX10_feed_98 (by decide) ?_
  refine lv_iload hx hb dX10_feed_55 (lv_at hl 0 rfl) ?_
  refine lv_bipush (v := 20) hx hb dX10_feed_57 (by decide) ?_
  refine lv_icmp_ge (tgt := 101) hx hb dX10_feed_59 (by decide) (fun c_107 => absurd c_107 (by decide)) (fun _ => ?_)
  refine lv_aload_n hx hb dX10_feed_62 rfl (lv_at hl 1 rfl) ?_
  refine va_get (D := (dC, dI)) (ci := 8) (v := .ref m_tape) (C := RX10) (T := TX10) (N := 33) hx hb hts iX10_feed_X10 hown hK hP 0 rfl rfl 5 (by decide) (hts (.fieldLink RX10 23 "LuckyTicketModel" "tape" "[B") (List.mem_of_getElem? (i := 3) rfl)) (fun _ h9 => h9) rfl dX10_feed_63 ?_
  refine lv_aload_n hx hb dX10_feed_66 rfl (lv_at hl 1 rfl) ?_
  refine va_get (D := (dC, dI)) (ci := 8) (v := .int 0) (C := RX10) (T := TX10) (N := 33) hx hb hts iX10_feed_X10 hown hK hP 0 rfl rfl 6 (by decide) (hts (.fieldLink RX10 97 "LuckyTicketModel" "taped" "I") (List.mem_of_getElem? (i := 1) rfl)) (fun _ h9 => h9) rfl dX10_feed_67 ?_
  refine lv_iload hx hb dX10_feed_70 (lv_at hl 0 rfl) ?_
  refine lv_iadd hx hb dX10_feed_72 ?_
  refine lv_topi (fun z_108 ez_108 => ?_)
  obtain rfl : z_108 = 13 := ez_108.trans (by decide)
  refine lv_aload_n hx hb dX10_feed_73 rfl (lv_at hl 1 rfl) ?_
  refine va_get (D := (dC, dI)) (ci := 8) (v := .ref m_five) (C := RX10) (T := TX10) (N := 33) hx hb hts iX10_feed_X10 hown hK hP 0 rfl rfl 7 (by decide) (hts (.fieldLink RX10 27 "LuckyTicketModel" "five" "[I") (List.mem_of_getElem? (i := 2) rfl)) (fun _ h9 => h9) rfl dX10_feed_74 ?_
  refine lv_iload hx hb dX10_feed_77 (lv_at hl 0 rfl) ?_
  refine lv_iconst (v := 4) hx hb dX10_feed_79 (by decide) ?_
  refine lv_idiv hx hb dX10_feed_80 (by decide) ?_
  refine lv_topi (fun z_109 ez_109 => ?_)
  obtain rfl : z_109 = 3 := ez_109.trans (by decide)
  refine va_iald hx hb hK hP 2 1 rfl rfl (vp_in_lit (by decide)) dX10_feed_81 ?_
  refine lv_topi (fun z_110 ez_110 => ?_)
  refine lv_bipush (v := 24) hx hb dX10_feed_82 (by decide) ?_
  refine lv_bipush (v := 8) hx hb dX10_feed_84 (by decide) ?_
  refine lv_iload hx hb dX10_feed_86 (lv_at hl 0 rfl) ?_
  refine lv_iconst (v := 4) hx hb dX10_feed_88 (by decide) ?_
  refine lv_irem hx hb dX10_feed_89 (by decide) ?_
  refine lv_topi (fun z_111 ez_111 => ?_)
  obtain rfl : z_111 = 1 := ez_111.trans (by decide)
  refine lv_imul hx hb dX10_feed_90 ?_
  refine lv_topi (fun z_112 ez_112 => ?_)
  obtain rfl : z_112 = 8 := ez_112.trans (by decide)
  refine lv_isub hx hb dX10_feed_91 ?_
  refine lv_topi (fun z_113 ez_113 => ?_)
  obtain rfl : z_113 = 16 := ez_113.trans (by decide)
  refine lv_ishr hx hb dX10_feed_92 ?_
  refine lv_topi (fun z_114 ez_114 => ?_)
  refine lv_i2b (v := z_114.toInt8.toInt32) hx hb dX10_feed_93 rfl ?_
  refine va_bast hx hb hK hP hD hS 1 0 rfl rfl (vp_in_lit (by decide)) dX10_feed_94 (fun H locs hP hD hS => ?_)
  have hP : va_P (dC, dI) vwCl [(h0, .inr (8, [.int 0, .ref m_world, .ref m_images, .ref m_hasImage, .ref m_luck, .ref m_tape, .int 0, .ref m_five, .int 0, .int 0, .int 0, .int 0, .int 0, .int 0, .int (-1), .ref m_fresh, .ref m_waits, .int 0, .int 0, .int 0, .ref m_figures, .ref m_pile, .long 0, .ref m_times, .ref m_far, .ref m_queue, .ref m_months, .ref m_ways, .ref m_waysOn, .ref m_many, .ref m_width, .ref m_numbers, .ref m_moving])), (m_tape, .inl (cB, 1200, .inl (upd (upd (upd (upd (upd (upd (upd (upd (upd (upd (upd (upd (upd (upd f (0 : Int32).toNatClampNeg (vp_nar .byte z_10.toInt8.toInt32)) (1 : Int32).toNatClampNeg (vp_nar .byte z_18.toInt8.toInt32)) (2 : Int32).toNatClampNeg (vp_nar .byte z_26.toInt8.toInt32)) (3 : Int32).toNatClampNeg (vp_nar .byte z_34.toInt8.toInt32)) (4 : Int32).toNatClampNeg (vp_nar .byte z_42.toInt8.toInt32)) (5 : Int32).toNatClampNeg (vp_nar .byte z_50.toInt8.toInt32)) (6 : Int32).toNatClampNeg (vp_nar .byte z_58.toInt8.toInt32)) (7 : Int32).toNatClampNeg (vp_nar .byte z_66.toInt8.toInt32)) (8 : Int32).toNatClampNeg (vp_nar .byte z_74.toInt8.toInt32)) (9 : Int32).toNatClampNeg (vp_nar .byte z_82.toInt8.toInt32)) (10 : Int32).toNatClampNeg (vp_nar .byte z_90.toInt8.toInt32)) (11 : Int32).toNatClampNeg (vp_nar .byte z_98.toInt8.toInt32)) (12 : Int32).toNatClampNeg (vp_nar .byte z_106.toInt8.toInt32)) (13 : Int32).toNatClampNeg (vp_nar .byte z_114.toInt8.toInt32)))), (m_five, .inl (cI, 5, .inl (upd (upd (upd (upd (upd g (0 : Int32).toNatClampNeg a1) (1 : Int32).toNatClampNeg a2) (2 : Int32).toNatClampNeg a3) (3 : Int32).toNatClampNeg a4) (4 : Int32).toNatClampNeg a5)))] H := hP
  have hD : va_D A [(h0, .inr (8, [.int 0, .ref m_world, .ref m_images, .ref m_hasImage, .ref m_luck, .ref m_tape, .int 0, .ref m_five, .int 0, .int 0, .int 0, .int 0, .int 0, .int 0, .int (-1), .ref m_fresh, .ref m_waits, .int 0, .int 0, .int 0, .ref m_figures, .ref m_pile, .long 0, .ref m_times, .ref m_far, .ref m_queue, .ref m_months, .ref m_ways, .ref m_waysOn, .ref m_many, .ref m_width, .ref m_numbers, .ref m_moving])), (m_tape, .inl (cB, 1200, .inl (upd (upd (upd (upd (upd (upd (upd (upd (upd (upd (upd (upd (upd (upd f (0 : Int32).toNatClampNeg (vp_nar .byte z_10.toInt8.toInt32)) (1 : Int32).toNatClampNeg (vp_nar .byte z_18.toInt8.toInt32)) (2 : Int32).toNatClampNeg (vp_nar .byte z_26.toInt8.toInt32)) (3 : Int32).toNatClampNeg (vp_nar .byte z_34.toInt8.toInt32)) (4 : Int32).toNatClampNeg (vp_nar .byte z_42.toInt8.toInt32)) (5 : Int32).toNatClampNeg (vp_nar .byte z_50.toInt8.toInt32)) (6 : Int32).toNatClampNeg (vp_nar .byte z_58.toInt8.toInt32)) (7 : Int32).toNatClampNeg (vp_nar .byte z_66.toInt8.toInt32)) (8 : Int32).toNatClampNeg (vp_nar .byte z_74.toInt8.toInt32)) (9 : Int32).toNatClampNeg (vp_nar .byte z_82.toInt8.toInt32)) (10 : Int32).toNatClampNeg (vp_nar .byte z_90.toInt8.toInt32)) (11 : Int32).toNatClampNeg (vp_nar .byte z_98.toInt8.toInt32)) (12 : Int32).toNatClampNeg (vp_nar .byte z_106.toInt8.toInt32)) (13 : Int32).toNatClampNeg (vp_nar .byte z_114.toInt8.toInt32)))), (m_five, .inl (cI, 5, .inl (upd (upd (upd (upd (upd g (0 : Int32).toNatClampNeg a1) (1 : Int32).toNatClampNeg a2) (2 : Int32).toNatClampNeg a3) (3 : Int32).toNatClampNeg a4) (4 : Int32).toNatClampNeg a5)))] := hD
  refine lv_iinc (v := 14) (lv' := [(6, .int 14), (0, .ref h0), (1, .int a1), (2, .int a2), (3, .int a3), (4, .int a4), (5, .int a5)]) hx hb dX10_feed_95 hl (k := 0) rfl (by decide) (by decide) rfl (fun ls hl => ?_)
  refine lv_goto (tgt := 55) hx hb dX10_feed_98 (by decide) ?_
  refine lv_iload hx hb dX10_feed_55 (lv_at hl 0 rfl) ?_
  refine lv_bipush (v := 20) hx hb dX10_feed_57 (by decide) ?_
  refine lv_icmp_ge (tgt := 101) hx hb dX10_feed_59 (by decide) (fun c_115 => absurd c_115 (by decide)) (fun _ => ?_)
  refine lv_aload_n hx hb dX10_feed_62 rfl (lv_at hl 1 rfl) ?_
  refine va_get (D := (dC, dI)) (ci := 8) (v := .ref m_tape) (C := RX10) (T := TX10) (N := 33) hx hb hts iX10_feed_X10 hown hK hP 0 rfl rfl 5 (by decide) (hts (.fieldLink RX10 23 "LuckyTicketModel" "tape" "[B") (List.mem_of_getElem? (i := 3) rfl)) (fun _ h9 => h9) rfl dX10_feed_63 ?_
  refine lv_aload_n hx hb dX10_feed_66 rfl (lv_at hl 1 rfl) ?_
  refine va_get (D := (dC, dI)) (ci := 8) (v := .int 0) (C := RX10) (T := TX10) (N := 33) hx hb hts iX10_feed_X10 hown hK hP 0 rfl rfl 6 (by decide) (hts (.fieldLink RX10 97 "LuckyTicketModel" "taped" "I") (List.mem_of_getElem? (i := 1) rfl)) (fun _ h9 => h9) rfl dX10_feed_67 ?_
  refine lv_iload hx hb dX10_feed_70 (lv_at hl 0 rfl) ?_
  refine lv_iadd hx hb dX10_feed_72 ?_
  refine lv_topi (fun z_116 ez_116 => ?_)
  obtain rfl : z_116 = 14 := ez_116.trans (by decide)
  refine lv_aload_n hx hb dX10_feed_73 rfl (lv_at hl 1 rfl) ?_
  refine va_get (D := (dC, dI)) (ci := 8) (v := .ref m_five) (C := RX10) (T := TX10) (N := 33) hx hb hts iX10_feed_X10 hown hK hP 0 rfl rfl 7 (by decide) (hts (.fieldLink RX10 27 "LuckyTicketModel" "five" "[I") (List.mem_of_getElem? (i := 2) rfl)) (fun _ h9 => h9) rfl dX10_feed_74 ?_
  refine lv_iload hx hb dX10_feed_77 (lv_at hl 0 rfl) ?_
  refine lv_iconst (v := 4) hx hb dX10_feed_79 (by decide) ?_
  refine lv_idiv hx hb dX10_feed_80 (by decide) ?_
  refine lv_topi (fun z_117 ez_117 => ?_)
  obtain rfl : z_117 = 3 := ez_117.trans (by decide)
  refine va_iald hx hb hK hP 2 1 rfl rfl (vp_in_lit (by decide)) dX10_feed_81 ?_
  refine lv_topi (fun z_118 ez_118 => ?_)
  refine lv_bipush (v := 24) hx hb dX10_feed_82 (by decide) ?_
  refine lv_bipush (v := 8) hx hb dX10_feed_84 (by decide) ?_
  refine lv_iload hx hb dX10_feed_86 (lv_at hl 0 rfl) ?_
  refine lv_iconst (v := 4) hx hb dX10_feed_88 (by decide) ?_
  refine lv_irem hx hb dX10_feed_89 (by decide) ?_
  refine lv_topi (fun z_119 ez_119 => ?_)
  obtain rfl : z_119 = 2 := ez_119.trans (by decide)
  refine lv_imul hx hb dX10_feed_90 ?_
  refine lv_topi (fun z_120 ez_120 => ?_)
  obtain rfl : z_120 = 16 := ez_120.trans (by decide)
  refine lv_isub hx hb dX10_feed_91 ?_
  refine lv_topi (fun z_121 ez_121 => ?_)
  obtain rfl : z_121 = 8 := ez_121.trans (by decide)
  refine lv_ishr hx hb dX10_feed_92 ?_
  refine lv_topi (fun z_122 ez_122 => ?_)
  refine lv_i2b (v := z_122.toInt8.toInt32) hx hb dX10_feed_93 rfl ?_
  refine va_bast hx hb hK hP hD hS 1 0 rfl rfl (vp_in_lit (by decide)) dX10_feed_94 (fun H locs hP hD hS => ?_)
  have hP : va_P (dC, dI) vwCl [(h0, .inr (8, [.int 0, .ref m_world, .ref m_images, .ref m_hasImage, .ref m_luck, .ref m_tape, .int 0, .ref m_five, .int 0, .int 0, .int 0, .int 0, .int 0, .int 0, .int (-1), .ref m_fresh, .ref m_waits, .int 0, .int 0, .int 0, .ref m_figures, .ref m_pile, .long 0, .ref m_times, .ref m_far, .ref m_queue, .ref m_months, .ref m_ways, .ref m_waysOn, .ref m_many, .ref m_width, .ref m_numbers, .ref m_moving])), (m_tape, .inl (cB, 1200, .inl (upd (upd (upd (upd (upd (upd (upd (upd (upd (upd (upd (upd (upd (upd (upd f (0 : Int32).toNatClampNeg (vp_nar .byte z_10.toInt8.toInt32)) (1 : Int32).toNatClampNeg (vp_nar .byte z_18.toInt8.toInt32)) (2 : Int32).toNatClampNeg (vp_nar .byte z_26.toInt8.toInt32)) (3 : Int32).toNatClampNeg (vp_nar .byte z_34.toInt8.toInt32)) (4 : Int32).toNatClampNeg (vp_nar .byte z_42.toInt8.toInt32)) (5 : Int32).toNatClampNeg (vp_nar .byte z_50.toInt8.toInt32)) (6 : Int32).toNatClampNeg (vp_nar .byte z_58.toInt8.toInt32)) (7 : Int32).toNatClampNeg (vp_nar .byte z_66.toInt8.toInt32)) (8 : Int32).toNatClampNeg (vp_nar .byte z_74.toInt8.toInt32)) (9 : Int32).toNatClampNeg (vp_nar .byte z_82.toInt8.toInt32)) (10 : Int32).toNatClampNeg (vp_nar .byte z_90.toInt8.toInt32)) (11 : Int32).toNatClampNeg (vp_nar .byte z_98.toInt8.toInt32)) (12 : Int32).toNatClampNeg (vp_nar .byte z_106.toInt8.toInt32)) (13 : Int32).toNatClampNeg (vp_nar .byte z_114.toInt8.toInt32)) (14 : Int32).toNatClampNeg (vp_nar .byte z_122.toInt8.toInt32)))), (m_five, .inl (cI, 5, .inl (upd (upd (upd (upd (upd g (0 : Int32).toNatClampNeg a1) (1 : Int32).toNatClampNeg a2) (2 : Int32).toNatClampNeg a3) (3 : Int32).toNatClampNeg a4) (4 : Int32).toNatClampNeg a5)))] H := hP
  have hD : va_D A [(h0, .inr (8, [.int 0, .ref m_world, .ref m_images, .ref m_hasImage, .ref m_luck, .ref m_tape, .int 0, .ref m_five, .int 0, .int 0, .int 0, .int 0, .int 0, .int 0, .int (-1), .ref m_fresh, .ref m_waits, .int 0, .int 0, .int 0, .ref m_figures, .ref m_pile, .long 0, .ref m_times, .ref m_far, .ref m_queue, .ref m_months, .ref m_ways, .ref m_waysOn, .ref m_many, .ref m_width, .ref m_numbers, .ref m_moving])), (m_tape, .inl (cB, 1200, .inl (upd (upd (upd (upd (upd (upd (upd (upd (upd (upd (upd (upd (upd (upd (upd f (0 : Int32).toNatClampNeg (vp_nar .byte z_10.toInt8.toInt32)) (1 : Int32).toNatClampNeg (vp_nar .byte z_18.toInt8.toInt32)) (2 : Int32).toNatClampNeg (vp_nar .byte z_26.toInt8.toInt32)) (3 : Int32).toNatClampNeg (vp_nar .byte z_34.toInt8.toInt32)) (4 : Int32).toNatClampNeg (vp_nar .byte z_42.toInt8.toInt32)) (5 : Int32).toNatClampNeg (vp_nar .byte z_50.toInt8.toInt32)) (6 : Int32).toNatClampNeg (vp_nar .byte z_58.toInt8.toInt32)) (7 : Int32).toNatClampNeg (vp_nar .byte z_66.toInt8.toInt32)) (8 : Int32).toNatClampNeg (vp_nar .byte z_74.toInt8.toInt32)) (9 : Int32).toNatClampNeg (vp_nar .byte z_82.toInt8.toInt32)) (10 : Int32).toNatClampNeg (vp_nar .byte z_90.toInt8.toInt32)) (11 : Int32).toNatClampNeg (vp_nar .byte z_98.toInt8.toInt32)) (12 : Int32).toNatClampNeg (vp_nar .byte z_106.toInt8.toInt32)) (13 : Int32).toNatClampNeg (vp_nar .byte z_114.toInt8.toInt32)) (14 : Int32).toNatClampNeg (vp_nar .byte z_122.toInt8.toInt32)))), (m_five, .inl (cI, 5, .inl (upd (upd (upd (upd (upd g (0 : Int32).toNatClampNeg a1) (1 : Int32).toNatClampNeg a2) (2 : Int32).toNatClampNeg a3) (3 : Int32).toNatClampNeg a4) (4 : Int32).toNatClampNeg a5)))] := hD
  refine lv_iinc (v := 15) (lv' := [(6, .int 15), (0, .ref h0), (1, .int a1), (2, .int a2), (3, .int a3), (4, .int a4), (5, .int a5)]) hx hb dX10_feed_95 hl (k := 0) rfl (by decide) (by decide) rfl (fun ls hl => ?_)
  refine lv_goto (tgt := 55) hx hb dX10_feed_98 (by decide) ?_
  refine lv_iload hx hb dX10_feed_55 (lv_at hl 0 rfl) ?_
  refine lv_bipush (v := 20) hx hb dX10_feed_57 (by decide) ?_
  refine lv_icmp_ge (tgt := 101) hx hb dX10_feed_59 (by decide) (fun c_123 => absurd c_123 (by decide)) (fun _ => ?_)
  refine lv_aload_n hx hb dX10_feed_62 rfl (lv_at hl 1 rfl) ?_
  refine va_get (D := (dC, dI)) (ci := 8) (v := .ref m_tape) (C := RX10) (T := TX10) (N := 33) hx hb hts iX10_feed_X10 hown hK hP 0 rfl rfl 5 (by decide) (hts (.fieldLink RX10 23 "LuckyTicketModel" "tape" "[B") (List.mem_of_getElem? (i := 3) rfl)) (fun _ h9 => h9) rfl dX10_feed_63 ?_
  refine lv_aload_n hx hb dX10_feed_66 rfl (lv_at hl 1 rfl) ?_
  refine va_get (D := (dC, dI)) (ci := 8) (v := .int 0) (C := RX10) (T := TX10) (N := 33) hx hb hts iX10_feed_X10 hown hK hP 0 rfl rfl 6 (by decide) (hts (.fieldLink RX10 97 "LuckyTicketModel" "taped" "I") (List.mem_of_getElem? (i := 1) rfl)) (fun _ h9 => h9) rfl dX10_feed_67 ?_
  refine lv_iload hx hb dX10_feed_70 (lv_at hl 0 rfl) ?_
  refine lv_iadd hx hb dX10_feed_72 ?_
  refine lv_topi (fun z_124 ez_124 => ?_)
  obtain rfl : z_124 = 15 := ez_124.trans (by decide)
  refine lv_aload_n hx hb dX10_feed_73 rfl (lv_at hl 1 rfl) ?_
  refine va_get (D := (dC, dI)) (ci := 8) (v := .ref m_five) (C := RX10) (T := TX10) (N := 33) hx hb hts iX10_feed_X10 hown hK hP 0 rfl rfl 7 (by decide) (hts (.fieldLink RX10 27 "LuckyTicketModel" "five" "[I") (List.mem_of_getElem? (i := 2) rfl)) (fun _ h9 => h9) rfl dX10_feed_74 ?_
  refine lv_iload hx hb dX10_feed_77 (lv_at hl 0 rfl) ?_
  refine lv_iconst (v := 4) hx hb dX10_feed_79 (by decide) ?_
  refine lv_idiv hx hb dX10_feed_80 (by decide) ?_
  refine lv_topi (fun z_125 ez_125 => ?_)
  obtain rfl : z_125 = 3 := ez_125.trans (by decide)
  refine va_iald hx hb hK hP 2 1 rfl rfl (vp_in_lit (by decide)) dX10_feed_81 ?_
  refine lv_topi (fun z_126 ez_126 => ?_)
  refine lv_bipush (v := 24) hx hb dX10_feed_82 (by decide) ?_
  refine lv_bipush (v := 8) hx hb dX10_feed_84 (by decide) ?_
  refine lv_iload hx hb dX10_feed_86 (lv_at hl 0 rfl) ?_
  refine lv_iconst (v := 4) hx hb dX10_feed_88 (by decide) ?_
  refine lv_irem hx hb dX10_feed_89 (by decide) ?_
  refine lv_topi (fun z_127 ez_127 => ?_)
  obtain rfl : z_127 = 3 := ez_127.trans (by decide)
  refine lv_imul hx hb dX10_feed_90 ?_
  refine lv_topi (fun z_128 ez_128 => ?_)
  obtain rfl : z_128 = 24 := ez_128.trans (by decide)
  refine lv_isub hx hb dX10_feed_91 ?_
  refine lv_topi (fun z_129 ez_129 => ?_)
  obtain rfl : z_129 = 0 := ez_129.trans (by decide)
  refine lv_ishr hx hb dX10_feed_92 ?_
  refine lv_topi (fun z_130 ez_130 => ?_)
  refine lv_i2b (v := z_130.toInt8.toInt32) hx hb dX10_feed_93 rfl ?_
  refine va_bast hx hb hK hP hD hS 1 0 rfl rfl (vp_in_lit (by decide)) dX10_feed_94 (fun H locs hP hD hS => ?_)
  have hP : va_P (dC, dI) vwCl [(h0, .inr (8, [.int 0, .ref m_world, .ref m_images, .ref m_hasImage, .ref m_luck, .ref m_tape, .int 0, .ref m_five, .int 0, .int 0, .int 0, .int 0, .int 0, .int 0, .int (-1), .ref m_fresh, .ref m_waits, .int 0, .int 0, .int 0, .ref m_figures, .ref m_pile, .long 0, .ref m_times, .ref m_far, .ref m_queue, .ref m_months, .ref m_ways, .ref m_waysOn, .ref m_many, .ref m_width, .ref m_numbers, .ref m_moving])), (m_tape, .inl (cB, 1200, .inl (upd (upd (upd (upd (upd (upd (upd (upd (upd (upd (upd (upd (upd (upd (upd (upd f (0 : Int32).toNatClampNeg (vp_nar .byte z_10.toInt8.toInt32)) (1 : Int32).toNatClampNeg (vp_nar .byte z_18.toInt8.toInt32)) (2 : Int32).toNatClampNeg (vp_nar .byte z_26.toInt8.toInt32)) (3 : Int32).toNatClampNeg (vp_nar .byte z_34.toInt8.toInt32)) (4 : Int32).toNatClampNeg (vp_nar .byte z_42.toInt8.toInt32)) (5 : Int32).toNatClampNeg (vp_nar .byte z_50.toInt8.toInt32)) (6 : Int32).toNatClampNeg (vp_nar .byte z_58.toInt8.toInt32)) (7 : Int32).toNatClampNeg (vp_nar .byte z_66.toInt8.toInt32)) (8 : Int32).toNatClampNeg (vp_nar .byte z_74.toInt8.toInt32)) (9 : Int32).toNatClampNeg (vp_nar .byte z_82.toInt8.toInt32)) (10 : Int32).toNatClampNeg (vp_nar .byte z_90.toInt8.toInt32)) (11 : Int32).toNatClampNeg (vp_nar .byte z_98.toInt8.toInt32)) (12 : Int32).toNatClampNeg (vp_nar .byte z_106.toInt8.toInt32)) (13 : Int32).toNatClampNeg (vp_nar .byte z_114.toInt8.toInt32)) (14 : Int32).toNatClampNeg (vp_nar .byte z_122.toInt8.toInt32)) (15 : Int32).toNatClampNeg (vp_nar .byte z_130.toInt8.toInt32)))), (m_five, .inl (cI, 5, .inl (upd (upd (upd (upd (upd g (0 : Int32).toNatClampNeg a1) (1 : Int32).toNatClampNeg a2) (2 : Int32).toNatClampNeg a3) (3 : Int32).toNatClampNeg a4) (4 : Int32).toNatClampNeg a5)))] H := hP
  have hD : va_D A [(h0, .inr (8, [.int 0, .ref m_world, .ref m_images, .ref m_hasImage, .ref m_luck, .ref m_tape, .int 0, .ref m_five, .int 0, .int 0, .int 0, .int 0, .int 0, .int 0, .int (-1), .ref m_fresh, .ref m_waits, .int 0, .int 0, .int 0, .ref m_figures, .ref m_pile, .long 0, .ref m_times, .ref m_far, .ref m_queue, .ref m_months, .ref m_ways, .ref m_waysOn, .ref m_many, .ref m_width, .ref m_numbers, .ref m_moving])), (m_tape, .inl (cB, 1200, .inl (upd (upd (upd (upd (upd (upd (upd (upd (upd (upd (upd (upd (upd (upd (upd (upd f (0 : Int32).toNatClampNeg (vp_nar .byte z_10.toInt8.toInt32)) (1 : Int32).toNatClampNeg (vp_nar .byte z_18.toInt8.toInt32)) (2 : Int32).toNatClampNeg (vp_nar .byte z_26.toInt8.toInt32)) (3 : Int32).toNatClampNeg (vp_nar .byte z_34.toInt8.toInt32)) (4 : Int32).toNatClampNeg (vp_nar .byte z_42.toInt8.toInt32)) (5 : Int32).toNatClampNeg (vp_nar .byte z_50.toInt8.toInt32)) (6 : Int32).toNatClampNeg (vp_nar .byte z_58.toInt8.toInt32)) (7 : Int32).toNatClampNeg (vp_nar .byte z_66.toInt8.toInt32)) (8 : Int32).toNatClampNeg (vp_nar .byte z_74.toInt8.toInt32)) (9 : Int32).toNatClampNeg (vp_nar .byte z_82.toInt8.toInt32)) (10 : Int32).toNatClampNeg (vp_nar .byte z_90.toInt8.toInt32)) (11 : Int32).toNatClampNeg (vp_nar .byte z_98.toInt8.toInt32)) (12 : Int32).toNatClampNeg (vp_nar .byte z_106.toInt8.toInt32)) (13 : Int32).toNatClampNeg (vp_nar .byte z_114.toInt8.toInt32)) (14 : Int32).toNatClampNeg (vp_nar .byte z_122.toInt8.toInt32)) (15 : Int32).toNatClampNeg (vp_nar .byte z_130.toInt8.toInt32)))), (m_five, .inl (cI, 5, .inl (upd (upd (upd (upd (upd g (0 : Int32).toNatClampNeg a1) (1 : Int32).toNatClampNeg a2) (2 : Int32).toNatClampNeg a3) (3 : Int32).toNatClampNeg a4) (4 : Int32).toNatClampNeg a5)))] := hD
  refine lv_iinc (v := 16) (lv' := [(6, .int 16), (0, .ref h0), (1, .int a1), (2, .int a2), (3, .int a3), (4, .int a4), (5, .int a5)]) hx hb dX10_feed_95 hl (k := 0) rfl (by decide) (by decide) rfl (fun ls hl => ?_)
  refine lv_goto (tgt := 55) hx hb dX10_feed_98 (by decide) ?_
  refine lv_iload hx hb dX10_feed_55 (lv_at hl 0 rfl) ?_
  refine lv_bipush (v := 20) hx hb dX10_feed_57 (by decide) ?_
  refine lv_icmp_ge (tgt := 101) hx hb dX10_feed_59 (by decide) (fun c_131 => absurd c_131 (by decide)) (fun _ => ?_)
  refine lv_aload_n hx hb dX10_feed_62 rfl (lv_at hl 1 rfl) ?_
  refine va_get (D := (dC, dI)) (ci := 8) (v := .ref m_tape) (C := RX10) (T := TX10) (N := 33) hx hb hts iX10_feed_X10 hown hK hP 0 rfl rfl 5 (by decide) (hts (.fieldLink RX10 23 "LuckyTicketModel" "tape" "[B") (List.mem_of_getElem? (i := 3) rfl)) (fun _ h9 => h9) rfl dX10_feed_63 ?_
  refine lv_aload_n hx hb dX10_feed_66 rfl (lv_at hl 1 rfl) ?_
  refine va_get (D := (dC, dI)) (ci := 8) (v := .int 0) (C := RX10) (T := TX10) (N := 33) hx hb hts iX10_feed_X10 hown hK hP 0 rfl rfl 6 (by decide) (hts (.fieldLink RX10 97 "LuckyTicketModel" "taped" "I") (List.mem_of_getElem? (i := 1) rfl)) (fun _ h9 => h9) rfl dX10_feed_67 ?_
  refine lv_iload hx hb dX10_feed_70 (lv_at hl 0 rfl) ?_
  refine lv_iadd hx hb dX10_feed_72 ?_
  refine lv_topi (fun z_132 ez_132 => ?_)
  obtain rfl : z_132 = 16 := ez_132.trans (by decide)
  refine lv_aload_n hx hb dX10_feed_73 rfl (lv_at hl 1 rfl) ?_
  refine va_get (D := (dC, dI)) (ci := 8) (v := .ref m_five) (C := RX10) (T := TX10) (N := 33) hx hb hts iX10_feed_X10 hown hK hP 0 rfl rfl 7 (by decide) (hts (.fieldLink RX10 27 "LuckyTicketModel" "five" "[I") (List.mem_of_getElem? (i := 2) rfl)) (fun _ h9 => h9) rfl dX10_feed_74 ?_
  refine lv_iload hx hb dX10_feed_77 (lv_at hl 0 rfl) ?_
  refine lv_iconst (v := 4) hx hb dX10_feed_79 (by decide) ?_
  refine lv_idiv hx hb dX10_feed_80 (by decide) ?_
  refine lv_topi (fun z_133 ez_133 => ?_)
  obtain rfl : z_133 = 4 := ez_133.trans (by decide)
  refine va_iald hx hb hK hP 2 1 rfl rfl (vp_in_lit (by decide)) dX10_feed_81 ?_
  refine lv_topi (fun z_134 ez_134 => ?_)
  refine lv_bipush (v := 24) hx hb dX10_feed_82 (by decide) ?_
  refine lv_bipush (v := 8) hx hb dX10_feed_84 (by decide) ?_
  refine lv_iload hx hb dX10_feed_86 (lv_at hl 0 rfl) ?_
  refine lv_iconst (v := 4) hx hb dX10_feed_88 (by decide) ?_
  refine lv_irem hx hb dX10_feed_89 (by decide) ?_
  refine lv_topi (fun z_135 ez_135 => ?_)
  obtain rfl : z_135 = 0 := ez_135.trans (by decide)
  refine lv_imul hx hb dX10_feed_90 ?_
  refine lv_topi (fun z_136 ez_136 => ?_)
  obtain rfl : z_136 = 0 := ez_136.trans (by decide)
  refine lv_isub hx hb dX10_feed_91 ?_
  refine lv_topi (fun z_137 ez_137 => ?_)
  obtain rfl : z_137 = 24 := ez_137.trans (by decide)
  refine lv_ishr hx hb dX10_feed_92 ?_
  refine lv_topi (fun z_138 ez_138 => ?_)
  refine lv_i2b (v := z_138.toInt8.toInt32) hx hb dX10_feed_93 rfl ?_
  refine va_bast hx hb hK hP hD hS 1 0 rfl rfl (vp_in_lit (by decide)) dX10_feed_94 (fun H locs hP hD hS => ?_)
  have hP : va_P (dC, dI) vwCl [(h0, .inr (8, [.int 0, .ref m_world, .ref m_images, .ref m_hasImage, .ref m_luck, .ref m_tape, .int 0, .ref m_five, .int 0, .int 0, .int 0, .int 0, .int 0, .int 0, .int (-1), .ref m_fresh, .ref m_waits, .int 0, .int 0, .int 0, .ref m_figures, .ref m_pile, .long 0, .ref m_times, .ref m_far, .ref m_queue, .ref m_months, .ref m_ways, .ref m_waysOn, .ref m_many, .ref m_width, .ref m_numbers, .ref m_moving])), (m_tape, .inl (cB, 1200, .inl (upd (upd (upd (upd (upd (upd (upd (upd (upd (upd (upd (upd (upd (upd (upd (upd (upd f (0 : Int32).toNatClampNeg (vp_nar .byte z_10.toInt8.toInt32)) (1 : Int32).toNatClampNeg (vp_nar .byte z_18.toInt8.toInt32)) (2 : Int32).toNatClampNeg (vp_nar .byte z_26.toInt8.toInt32)) (3 : Int32).toNatClampNeg (vp_nar .byte z_34.toInt8.toInt32)) (4 : Int32).toNatClampNeg (vp_nar .byte z_42.toInt8.toInt32)) (5 : Int32).toNatClampNeg (vp_nar .byte z_50.toInt8.toInt32)) (6 : Int32).toNatClampNeg (vp_nar .byte z_58.toInt8.toInt32)) (7 : Int32).toNatClampNeg (vp_nar .byte z_66.toInt8.toInt32)) (8 : Int32).toNatClampNeg (vp_nar .byte z_74.toInt8.toInt32)) (9 : Int32).toNatClampNeg (vp_nar .byte z_82.toInt8.toInt32)) (10 : Int32).toNatClampNeg (vp_nar .byte z_90.toInt8.toInt32)) (11 : Int32).toNatClampNeg (vp_nar .byte z_98.toInt8.toInt32)) (12 : Int32).toNatClampNeg (vp_nar .byte z_106.toInt8.toInt32)) (13 : Int32).toNatClampNeg (vp_nar .byte z_114.toInt8.toInt32)) (14 : Int32).toNatClampNeg (vp_nar .byte z_122.toInt8.toInt32)) (15 : Int32).toNatClampNeg (vp_nar .byte z_130.toInt8.toInt32)) (16 : Int32).toNatClampNeg (vp_nar .byte z_138.toInt8.toInt32)))), (m_five, .inl (cI, 5, .inl (upd (upd (upd (upd (upd g (0 : Int32).toNatClampNeg a1) (1 : Int32).toNatClampNeg a2) (2 : Int32).toNatClampNeg a3) (3 : Int32).toNatClampNeg a4) (4 : Int32).toNatClampNeg a5)))] H := hP
  have hD : va_D A [(h0, .inr (8, [.int 0, .ref m_world, .ref m_images, .ref m_hasImage, .ref m_luck, .ref m_tape, .int 0, .ref m_five, .int 0, .int 0, .int 0, .int 0, .int 0, .int 0, .int (-1), .ref m_fresh, .ref m_waits, .int 0, .int 0, .int 0, .ref m_figures, .ref m_pile, .long 0, .ref m_times, .ref m_far, .ref m_queue, .ref m_months, .ref m_ways, .ref m_waysOn, .ref m_many, .ref m_width, .ref m_numbers, .ref m_moving])), (m_tape, .inl (cB, 1200, .inl (upd (upd (upd (upd (upd (upd (upd (upd (upd (upd (upd (upd (upd (upd (upd (upd (upd f (0 : Int32).toNatClampNeg (vp_nar .byte z_10.toInt8.toInt32)) (1 : Int32).toNatClampNeg (vp_nar .byte z_18.toInt8.toInt32)) (2 : Int32).toNatClampNeg (vp_nar .byte z_26.toInt8.toInt32)) (3 : Int32).toNatClampNeg (vp_nar .byte z_34.toInt8.toInt32)) (4 : Int32).toNatClampNeg (vp_nar .byte z_42.toInt8.toInt32)) (5 : Int32).toNatClampNeg (vp_nar .byte z_50.toInt8.toInt32)) (6 : Int32).toNatClampNeg (vp_nar .byte z_58.toInt8.toInt32)) (7 : Int32).toNatClampNeg (vp_nar .byte z_66.toInt8.toInt32)) (8 : Int32).toNatClampNeg (vp_nar .byte z_74.toInt8.toInt32)) (9 : Int32).toNatClampNeg (vp_nar .byte z_82.toInt8.toInt32)) (10 : Int32).toNatClampNeg (vp_nar .byte z_90.toInt8.toInt32)) (11 : Int32).toNatClampNeg (vp_nar .byte z_98.toInt8.toInt32)) (12 : Int32).toNatClampNeg (vp_nar .byte z_106.toInt8.toInt32)) (13 : Int32).toNatClampNeg (vp_nar .byte z_114.toInt8.toInt32)) (14 : Int32).toNatClampNeg (vp_nar .byte z_122.toInt8.toInt32)) (15 : Int32).toNatClampNeg (vp_nar .byte z_130.toInt8.toInt32)) (16 : Int32).toNatClampNeg (vp_nar .byte z_138.toInt8.toInt32)))), (m_five, .inl (cI, 5, .inl (upd (upd (upd (upd (upd g (0 : Int32).toNatClampNeg a1) (1 : Int32).toNatClampNeg a2) (2 : Int32).toNatClampNeg a3) (3 : Int32).toNatClampNeg a4) (4 : Int32).toNatClampNeg a5)))] := hD
  refine lv_iinc (v := 17) (lv' := [(6, .int 17), (0, .ref h0), (1, .int a1), (2, .int a2), (3, .int a3), (4, .int a4), (5, .int a5)]) hx hb dX10_feed_95 hl (k := 0) rfl (by decide) (by decide) rfl (fun ls hl => ?_)
  refine lv_goto (tgt := 55) hx hb dX10_feed_98 (by decide) ?_
  refine lv_iload hx hb dX10_feed_55 (lv_at hl 0 rfl) ?_
  refine lv_bipush (v := 20) hx hb dX10_feed_57 (by decide) ?_
  refine lv_icmp_ge (tgt := 101) hx hb dX10_feed_59 (by decide) (fun c_139 => absurd c_139 (by decide)) (fun _ => ?_)
  refine lv_aload_n hx hb dX10_feed_62 rfl (lv_at hl 1 rfl) ?_
  refine va_get (D := (dC, dI)) (ci := 8) (v := .ref m_tape) (C := RX10) (T := TX10) (N := 33) hx hb hts iX10_feed_X10 hown hK hP 0 rfl rfl 5 (by decide) (hts (.fieldLink RX10 23 "LuckyTicketModel" "tape" "[B") (List.mem_of_getElem? (i := 3) rfl)) (fun _ h9 => h9) rfl dX10_feed_63 ?_
  refine lv_aload_n hx hb dX10_feed_66 rfl (lv_at hl 1 rfl) ?_
  refine va_get (D := (dC, dI)) (ci := 8) (v := .int 0) (C := RX10) (T := TX10) (N := 33) hx hb hts iX10_feed_X10 hown hK hP 0 rfl rfl 6 (by decide) (hts (.fieldLink RX10 97 "LuckyTicketModel" "taped" "I") (List.mem_of_getElem? (i := 1) rfl)) (fun _ h9 => h9) rfl dX10_feed_67 ?_
  refine lv_iload hx hb dX10_feed_70 (lv_at hl 0 rfl) ?_
  refine lv_iadd hx hb dX10_feed_72 ?_
  refine lv_topi (fun z_140 ez_140 => ?_)
  obtain rfl : z_140 = 17 := ez_140.trans (by decide)
  refine lv_aload_n hx hb dX10_feed_73 rfl (lv_at hl 1 rfl) ?_
  refine va_get (D := (dC, dI)) (ci := 8) (v := .ref m_five) (C := RX10) (T := TX10) (N := 33) hx hb hts iX10_feed_X10 hown hK hP 0 rfl rfl 7 (by decide) (hts (.fieldLink RX10 27 "LuckyTicketModel" "five" "[I") (List.mem_of_getElem? (i := 2) rfl)) (fun _ h9 => h9) rfl dX10_feed_74 ?_
  refine lv_iload hx hb dX10_feed_77 (lv_at hl 0 rfl) ?_
  refine lv_iconst (v := 4) hx hb dX10_feed_79 (by decide) ?_
  refine lv_idiv hx hb dX10_feed_80 (by decide) ?_
  refine lv_topi (fun z_141 ez_141 => ?_)
  obtain rfl : z_141 = 4 := ez_141.trans (by decide)
  refine va_iald hx hb hK hP 2 1 rfl rfl (vp_in_lit (by decide)) dX10_feed_81 ?_
  refine lv_topi (fun z_142 ez_142 => ?_)
  refine lv_bipush (v := 24) hx hb dX10_feed_82 (by decide) ?_
  refine lv_bipush (v := 8) hx hb dX10_feed_84 (by decide) ?_
  refine lv_iload hx hb dX10_feed_86 (lv_at hl 0 rfl) ?_
  refine lv_iconst (v := 4) hx hb dX10_feed_88 (by decide) ?_
  refine lv_irem hx hb dX10_feed_89 (by decide) ?_
  refine lv_topi (fun z_143 ez_143 => ?_)
  obtain rfl : z_143 = 1 := ez_143.trans (by decide)
  refine lv_imul hx hb dX10_feed_90 ?_
  refine lv_topi (fun z_144 ez_144 => ?_)
  obtain rfl : z_144 = 8 := ez_144.trans (by decide)
  refine lv_isub hx hb dX10_feed_91 ?_
  refine lv_topi (fun z_145 ez_145 => ?_)
  obtain rfl : z_145 = 16 := ez_145.trans (by decide)
  refine lv_ishr hx hb dX10_feed_92 ?_
  refine lv_topi (fun z_146 ez_146 => ?_)
  refine lv_i2b (v := z_146.toInt8.toInt32) hx hb dX10_feed_93 rfl ?_
  refine va_bast hx hb hK hP hD hS 1 0 rfl rfl (vp_in_lit (by decide)) dX10_feed_94 (fun H locs hP hD hS => ?_)
  have hP : va_P (dC, dI) vwCl [(h0, .inr (8, [.int 0, .ref m_world, .ref m_images, .ref m_hasImage, .ref m_luck, .ref m_tape, .int 0, .ref m_five, .int 0, .int 0, .int 0, .int 0, .int 0, .int 0, .int (-1), .ref m_fresh, .ref m_waits, .int 0, .int 0, .int 0, .ref m_figures, .ref m_pile, .long 0, .ref m_times, .ref m_far, .ref m_queue, .ref m_months, .ref m_ways, .ref m_waysOn, .ref m_many, .ref m_width, .ref m_numbers, .ref m_moving])), (m_tape, .inl (cB, 1200, .inl (upd (upd (upd (upd (upd (upd (upd (upd (upd (upd (upd (upd (upd (upd (upd (upd (upd (upd f (0 : Int32).toNatClampNeg (vp_nar .byte z_10.toInt8.toInt32)) (1 : Int32).toNatClampNeg (vp_nar .byte z_18.toInt8.toInt32)) (2 : Int32).toNatClampNeg (vp_nar .byte z_26.toInt8.toInt32)) (3 : Int32).toNatClampNeg (vp_nar .byte z_34.toInt8.toInt32)) (4 : Int32).toNatClampNeg (vp_nar .byte z_42.toInt8.toInt32)) (5 : Int32).toNatClampNeg (vp_nar .byte z_50.toInt8.toInt32)) (6 : Int32).toNatClampNeg (vp_nar .byte z_58.toInt8.toInt32)) (7 : Int32).toNatClampNeg (vp_nar .byte z_66.toInt8.toInt32)) (8 : Int32).toNatClampNeg (vp_nar .byte z_74.toInt8.toInt32)) (9 : Int32).toNatClampNeg (vp_nar .byte z_82.toInt8.toInt32)) (10 : Int32).toNatClampNeg (vp_nar .byte z_90.toInt8.toInt32)) (11 : Int32).toNatClampNeg (vp_nar .byte z_98.toInt8.toInt32)) (12 : Int32).toNatClampNeg (vp_nar .byte z_106.toInt8.toInt32)) (13 : Int32).toNatClampNeg (vp_nar .byte z_114.toInt8.toInt32)) (14 : Int32).toNatClampNeg (vp_nar .byte z_122.toInt8.toInt32)) (15 : Int32).toNatClampNeg (vp_nar .byte z_130.toInt8.toInt32)) (16 : Int32).toNatClampNeg (vp_nar .byte z_138.toInt8.toInt32)) (17 : Int32).toNatClampNeg (vp_nar .byte z_146.toInt8.toInt32)))), (m_five, .inl (cI, 5, .inl (upd (upd (upd (upd (upd g (0 : Int32).toNatClampNeg a1) (1 : Int32).toNatClampNeg a2) (2 : Int32).toNatClampNeg a3) (3 : Int32).toNatClampNeg a4) (4 : Int32).toNatClampNeg a5)))] H := hP
  have hD : va_D A [(h0, .inr (8, [.int 0, .ref m_world, .ref m_images, .ref m_hasImage, .ref m_luck, .ref m_tape, .int 0, .ref m_five, .int 0, .int 0, .int 0, .int 0, .int 0, .int 0, .int (-1), .ref m_fresh, .ref m_waits, .int 0, .int 0, .int 0, .ref m_figures, .ref m_pile, .long 0, .ref m_times, .ref m_far, .ref m_queue, .ref m_months, .ref m_ways, .ref m_waysOn, .ref m_many, .ref m_width, .ref m_numbers, .ref m_moving])), (m_tape, .inl (cB, 1200, .inl (upd (upd (upd (upd (upd (upd (upd (upd (upd (upd (upd (upd (upd (upd (upd (upd (upd (upd f (0 : Int32).toNatClampNeg (vp_nar .byte z_10.toInt8.toInt32)) (1 : Int32).toNatClampNeg (vp_nar .byte z_18.toInt8.toInt32)) (2 : Int32).toNatClampNeg (vp_nar .byte z_26.toInt8.toInt32)) (3 : Int32).toNatClampNeg (vp_nar .byte z_34.toInt8.toInt32)) (4 : Int32).toNatClampNeg (vp_nar .byte z_42.toInt8.toInt32)) (5 : Int32).toNatClampNeg (vp_nar .byte z_50.toInt8.toInt32)) (6 : Int32).toNatClampNeg (vp_nar .byte z_58.toInt8.toInt32)) (7 : Int32).toNatClampNeg (vp_nar .byte z_66.toInt8.toInt32)) (8 : Int32).toNatClampNeg (vp_nar .byte z_74.toInt8.toInt32)) (9 : Int32).toNatClampNeg (vp_nar .byte z_82.toInt8.toInt32)) (10 : Int32).toNatClampNeg (vp_nar .byte z_90.toInt8.toInt32)) (11 : Int32).toNatClampNeg (vp_nar .byte z_98.toInt8.toInt32)) (12 : Int32).toNatClampNeg (vp_nar .byte z_106.toInt8.toInt32)) (13 : Int32).toNatClampNeg (vp_nar .byte z_114.toInt8.toInt32)) (14 : Int32).toNatClampNeg (vp_nar .byte z_122.toInt8.toInt32)) (15 : Int32).toNatClampNeg (vp_nar .byte z_130.toInt8.toInt32)) (16 : Int32).toNatClampNeg (vp_nar .byte z_138.toInt8.toInt32)) (17 : Int32).toNatClampNeg (vp_nar .byte z_146.toInt8.toInt32)))), (m_five, .inl (cI, 5, .inl (upd (upd (upd (upd (upd g (0 : Int32).toNatClampNeg a1) (1 : Int32).toNatClampNeg a2) (2 : Int32).toNatClampNeg a3) (3 : Int32).toNatClampNeg a4) (4 : Int32).toNatClampNeg a5)))] := hD
  refine lv_iinc (v := 18) (lv' := [(6, .int 18), (0, .ref h0), (1, .int a1), (2, .int a2), (3, .int a3), (4, .int a4), (5, .int a5)]) hx hb dX10_feed_95 hl (k := 0) rfl (by decide) (by decide) rfl (fun ls hl => ?_)
  refine lv_goto (tgt := 55) hx hb dX10_feed_98 (by decide) ?_
  refine lv_iload hx hb dX10_feed_55 (lv_at hl 0 rfl) ?_
  refine lv_bipush (v := 20) hx hb dX10_feed_57 (by decide) ?_
  refine lv_icmp_ge (tgt := 101) hx hb dX10_feed_59 (by decide) (fun c_147 => absurd c_147 (by decide)) (fun _ => ?_)
  refine lv_aload_n hx hb dX10_feed_62 rfl (lv_at hl 1 rfl) ?_
  refine va_get (D := (dC, dI)) (ci := 8) (v := .ref m_tape) (C := RX10) (T := TX10) (N := 33) hx hb hts iX10_feed_X10 hown hK hP 0 rfl rfl 5 (by decide) (hts (.fieldLink RX10 23 "LuckyTicketModel" "tape" "[B") (List.mem_of_getElem? (i := 3) rfl)) (fun _ h9 => h9) rfl dX10_feed_63 ?_
  refine lv_aload_n hx hb dX10_feed_66 rfl (lv_at hl 1 rfl) ?_
  refine va_get (D := (dC, dI)) (ci := 8) (v := .int 0) (C := RX10) (T := TX10) (N := 33) hx hb hts iX10_feed_X10 hown hK hP 0 rfl rfl 6 (by decide) (hts (.fieldLink RX10 97 "LuckyTicketModel" "taped" "I") (List.mem_of_getElem? (i := 1) rfl)) (fun _ h9 => h9) rfl dX10_feed_67 ?_
  refine lv_iload hx hb dX10_feed_70 (lv_at hl 0 rfl) ?_
  refine lv_iadd hx hb dX10_feed_72 ?_
  refine lv_topi (fun z_148 ez_148 => ?_)
  obtain rfl : z_148 = 18 := ez_148.trans (by decide)
  refine lv_aload_n hx hb dX10_feed_73 rfl (lv_at hl 1 rfl) ?_
  refine va_get (D := (dC, dI)) (ci := 8) (v := .ref m_five) (C := RX10) (T := TX10) (N := 33) hx hb hts iX10_feed_X10 hown hK hP 0 rfl rfl 7 (by decide) (hts (.fieldLink RX10 27 "LuckyTicketModel" "five" "[I") (List.mem_of_getElem? (i := 2) rfl)) (fun _ h9 => h9) rfl dX10_feed_74 ?_
  refine lv_iload hx hb dX10_feed_77 (lv_at hl 0 rfl) ?_
  refine lv_iconst (v := 4) hx hb dX10_feed_79 (by decide) ?_
  refine lv_idiv hx hb dX10_feed_80 (by decide) ?_
  refine lv_topi (fun z_149 ez_149 => ?_)
  obtain rfl : z_149 = 4 := ez_149.trans (by decide)
  refine va_iald hx hb hK hP 2 1 rfl rfl (vp_in_lit (by decide)) dX10_feed_81 ?_
  refine lv_topi (fun z_150 ez_150 => ?_)
  refine lv_bipush (v := 24) hx hb dX10_feed_82 (by decide) ?_
  refine lv_bipush (v := 8) hx hb dX10_feed_84 (by decide) ?_
  refine lv_iload hx hb dX10_feed_86 (lv_at hl 0 rfl) ?_
  refine lv_iconst (v := 4) hx hb dX10_feed_88 (by decide) ?_
  refine lv_irem hx hb dX10_feed_89 (by decide) ?_
  refine lv_topi (fun z_151 ez_151 => ?_)
  obtain rfl : z_151 = 2 := ez_151.trans (by decide)
  refine lv_imul hx hb dX10_feed_90 ?_
  refine lv_topi (fun z_152 ez_152 => ?_)
  obtain rfl : z_152 = 16 := ez_152.trans (by decide)
  refine lv_isub hx hb dX10_feed_91 ?_
  refine lv_topi (fun z_153 ez_153 => ?_)
  obtain rfl : z_153 = 8 := ez_153.trans (by decide)
  refine lv_ishr hx hb dX10_feed_92 ?_
  refine lv_topi (fun z_154 ez_154 => ?_)
  refine lv_i2b (v := z_154.toInt8.toInt32) hx hb dX10_feed_93 rfl ?_
  refine va_bast hx hb hK hP hD hS 1 0 rfl rfl (vp_in_lit (by decide)) dX10_feed_94 (fun H locs hP hD hS => ?_)
  have hP : va_P (dC, dI) vwCl [(h0, .inr (8, [.int 0, .ref m_world, .ref m_images, .ref m_hasImage, .ref m_luck, .ref m_tape, .int 0, .ref m_five, .int 0, .int 0, .int 0, .int 0, .int 0, .int 0, .int (-1), .ref m_fresh, .ref m_waits, .int 0, .int 0, .int 0, .ref m_figures, .ref m_pile, .long 0, .ref m_times, .ref m_far, .ref m_queue, .ref m_months, .ref m_ways, .ref m_waysOn, .ref m_many, .ref m_width, .ref m_numbers, .ref m_moving])), (m_tape, .inl (cB, 1200, .inl (upd (upd (upd (upd (upd (upd (upd (upd (upd (upd (upd (upd (upd (upd (upd (upd (upd (upd (upd f (0 : Int32).toNatClampNeg (vp_nar .byte z_10.toInt8.toInt32)) (1 : Int32).toNatClampNeg (vp_nar .byte z_18.toInt8.toInt32)) (2 : Int32).toNatClampNeg (vp_nar .byte z_26.toInt8.toInt32)) (3 : Int32).toNatClampNeg (vp_nar .byte z_34.toInt8.toInt32)) (4 : Int32).toNatClampNeg (vp_nar .byte z_42.toInt8.toInt32)) (5 : Int32).toNatClampNeg (vp_nar .byte z_50.toInt8.toInt32)) (6 : Int32).toNatClampNeg (vp_nar .byte z_58.toInt8.toInt32)) (7 : Int32).toNatClampNeg (vp_nar .byte z_66.toInt8.toInt32)) (8 : Int32).toNatClampNeg (vp_nar .byte z_74.toInt8.toInt32)) (9 : Int32).toNatClampNeg (vp_nar .byte z_82.toInt8.toInt32)) (10 : Int32).toNatClampNeg (vp_nar .byte z_90.toInt8.toInt32)) (11 : Int32).toNatClampNeg (vp_nar .byte z_98.toInt8.toInt32)) (12 : Int32).toNatClampNeg (vp_nar .byte z_106.toInt8.toInt32)) (13 : Int32).toNatClampNeg (vp_nar .byte z_114.toInt8.toInt32)) (14 : Int32).toNatClampNeg (vp_nar .byte z_122.toInt8.toInt32)) (15 : Int32).toNatClampNeg (vp_nar .byte z_130.toInt8.toInt32)) (16 : Int32).toNatClampNeg (vp_nar .byte z_138.toInt8.toInt32)) (17 : Int32).toNatClampNeg (vp_nar .byte z_146.toInt8.toInt32)) (18 : Int32).toNatClampNeg (vp_nar .byte z_154.toInt8.toInt32)))), (m_five, .inl (cI, 5, .inl (upd (upd (upd (upd (upd g (0 : Int32).toNatClampNeg a1) (1 : Int32).toNatClampNeg a2) (2 : Int32).toNatClampNeg a3) (3 : Int32).toNatClampNeg a4) (4 : Int32).toNatClampNeg a5)))] H := hP
  have hD : va_D A [(h0, .inr (8, [.int 0, .ref m_world, .ref m_images, .ref m_hasImage, .ref m_luck, .ref m_tape, .int 0, .ref m_five, .int 0, .int 0, .int 0, .int 0, .int 0, .int 0, .int (-1), .ref m_fresh, .ref m_waits, .int 0, .int 0, .int 0, .ref m_figures, .ref m_pile, .long 0, .ref m_times, .ref m_far, .ref m_queue, .ref m_months, .ref m_ways, .ref m_waysOn, .ref m_many, .ref m_width, .ref m_numbers, .ref m_moving])), (m_tape, .inl (cB, 1200, .inl (upd (upd (upd (upd (upd (upd (upd (upd (upd (upd (upd (upd (upd (upd (upd (upd (upd (upd (upd f (0 : Int32).toNatClampNeg (vp_nar .byte z_10.toInt8.toInt32)) (1 : Int32).toNatClampNeg (vp_nar .byte z_18.toInt8.toInt32)) (2 : Int32).toNatClampNeg (vp_nar .byte z_26.toInt8.toInt32)) (3 : Int32).toNatClampNeg (vp_nar .byte z_34.toInt8.toInt32)) (4 : Int32).toNatClampNeg (vp_nar .byte z_42.toInt8.toInt32)) (5 : Int32).toNatClampNeg (vp_nar .byte z_50.toInt8.toInt32)) (6 : Int32).toNatClampNeg (vp_nar .byte z_58.toInt8.toInt32)) (7 : Int32).toNatClampNeg (vp_nar .byte z_66.toInt8.toInt32)) (8 : Int32).toNatClampNeg (vp_nar .byte z_74.toInt8.toInt32)) (9 : Int32).toNatClampNeg (vp_nar .byte z_82.toInt8.toInt32)) (10 : Int32).toNatClampNeg (vp_nar .byte z_90.toInt8.toInt32)) (11 : Int32).toNatClampNeg (vp_nar .byte z_98.toInt8.toInt32)) (12 : Int32).toNatClampNeg (vp_nar .byte z_106.toInt8.toInt32)) (13 : Int32).toNatClampNeg (vp_nar .byte z_114.toInt8.toInt32)) (14 : Int32).toNatClampNeg (vp_nar .byte z_122.toInt8.toInt32)) (15 : Int32).toNatClampNeg (vp_nar .byte z_130.toInt8.toInt32)) (16 : Int32).toNatClampNeg (vp_nar .byte z_138.toInt8.toInt32)) (17 : Int32).toNatClampNeg (vp_nar .byte z_146.toInt8.toInt32)) (18 : Int32).toNatClampNeg (vp_nar .byte z_154.toInt8.toInt32)))), (m_five, .inl (cI, 5, .inl (upd (upd (upd (upd (upd g (0 : Int32).toNatClampNeg a1) (1 : Int32).toNatClampNeg a2) (2 : Int32).toNatClampNeg a3) (3 : Int32).toNatClampNeg a4) (4 : Int32).toNatClampNeg a5)))] := hD
  refine lv_iinc (v := 19) (lv' := [(6, .int 19), (0, .ref h0), (1, .int a1), (2, .int a2), (3, .int a3), (4, .int a4), (5, .int a5)]) hx hb dX10_feed_95 hl (k := 0) rfl (by decide) (by decide) rfl (fun ls hl => ?_)
  refine lv_goto (tgt := 55) hx hb dX10_feed_98 (by decide) ?_
  refine lv_iload hx hb dX10_feed_55 (lv_at hl 0 rfl) ?_
  refine lv_bipush (v := 20) hx hb dX10_feed_57 (by decide) ?_
  refine lv_icmp_ge (tgt := 101) hx hb dX10_feed_59 (by decide) (fun c_155 => absurd c_155 (by decide)) (fun _ => ?_)
  refine lv_aload_n hx hb dX10_feed_62 rfl (lv_at hl 1 rfl) ?_
  refine va_get (D := (dC, dI)) (ci := 8) (v := .ref m_tape) (C := RX10) (T := TX10) (N := 33) hx hb hts iX10_feed_X10 hown hK hP 0 rfl rfl 5 (by decide) (hts (.fieldLink RX10 23 "LuckyTicketModel" "tape" "[B") (List.mem_of_getElem? (i := 3) rfl)) (fun _ h9 => h9) rfl dX10_feed_63 ?_
  refine lv_aload_n hx hb dX10_feed_66 rfl (lv_at hl 1 rfl) ?_
  refine va_get (D := (dC, dI)) (ci := 8) (v := .int 0) (C := RX10) (T := TX10) (N := 33) hx hb hts iX10_feed_X10 hown hK hP 0 rfl rfl 6 (by decide) (hts (.fieldLink RX10 97 "LuckyTicketModel" "taped" "I") (List.mem_of_getElem? (i := 1) rfl)) (fun _ h9 => h9) rfl dX10_feed_67 ?_
  refine lv_iload hx hb dX10_feed_70 (lv_at hl 0 rfl) ?_
  refine lv_iadd hx hb dX10_feed_72 ?_
  refine lv_topi (fun z_156 ez_156 => ?_)
  obtain rfl : z_156 = 19 := ez_156.trans (by decide)
  refine lv_aload_n hx hb dX10_feed_73 rfl (lv_at hl 1 rfl) ?_
  refine va_get (D := (dC, dI)) (ci := 8) (v := .ref m_five) (C := RX10) (T := TX10) (N := 33) hx hb hts iX10_feed_X10 hown hK hP 0 rfl rfl 7 (by decide) (hts (.fieldLink RX10 27 "LuckyTicketModel" "five" "[I") (List.mem_of_getElem? (i := 2) rfl)) (fun _ h9 => h9) rfl dX10_feed_74 ?_
  refine lv_iload hx hb dX10_feed_77 (lv_at hl 0 rfl) ?_
  refine lv_iconst (v := 4) hx hb dX10_feed_79 (by decide) ?_
  refine lv_idiv hx hb dX10_feed_80 (by decide) ?_
  refine lv_topi (fun z_157 ez_157 => ?_)
  obtain rfl : z_157 = 4 := ez_157.trans (by decide)
  refine va_iald hx hb hK hP 2 1 rfl rfl (vp_in_lit (by decide)) dX10_feed_81 ?_
  refine lv_topi (fun z_158 ez_158 => ?_)
  refine lv_bipush (v := 24) hx hb dX10_feed_82 (by decide) ?_
  refine lv_bipush (v := 8) hx hb dX10_feed_84 (by decide) ?_
  refine lv_iload hx hb dX10_feed_86 (lv_at hl 0 rfl) ?_
  refine lv_iconst (v := 4) hx hb dX10_feed_88 (by decide) ?_
  refine lv_irem hx hb dX10_feed_89 (by decide) ?_
  refine lv_topi (fun z_159 ez_159 => ?_)
  obtain rfl : z_159 = 3 := ez_159.trans (by decide)
  refine lv_imul hx hb dX10_feed_90 ?_
  refine lv_topi (fun z_160 ez_160 => ?_)
  obtain rfl : z_160 = 24 := ez_160.trans (by decide)
  refine lv_isub hx hb dX10_feed_91 ?_
  refine lv_topi (fun z_161 ez_161 => ?_)
  obtain rfl : z_161 = 0 := ez_161.trans (by decide)
  refine lv_ishr hx hb dX10_feed_92 ?_
  refine lv_topi (fun z_162 ez_162 => ?_)
  refine lv_i2b (v := z_162.toInt8.toInt32) hx hb dX10_feed_93 rfl ?_
  refine va_bast hx hb hK hP hD hS 1 0 rfl rfl (vp_in_lit (by decide)) dX10_feed_94 (fun H locs hP hD hS => ?_)
  have hP : va_P (dC, dI) vwCl [(h0, .inr (8, [.int 0, .ref m_world, .ref m_images, .ref m_hasImage, .ref m_luck, .ref m_tape, .int 0, .ref m_five, .int 0, .int 0, .int 0, .int 0, .int 0, .int 0, .int (-1), .ref m_fresh, .ref m_waits, .int 0, .int 0, .int 0, .ref m_figures, .ref m_pile, .long 0, .ref m_times, .ref m_far, .ref m_queue, .ref m_months, .ref m_ways, .ref m_waysOn, .ref m_many, .ref m_width, .ref m_numbers, .ref m_moving])), (m_tape, .inl (cB, 1200, .inl (upd (upd (upd (upd (upd (upd (upd (upd (upd (upd (upd (upd (upd (upd (upd (upd (upd (upd (upd (upd f (0 : Int32).toNatClampNeg (vp_nar .byte z_10.toInt8.toInt32)) (1 : Int32).toNatClampNeg (vp_nar .byte z_18.toInt8.toInt32)) (2 : Int32).toNatClampNeg (vp_nar .byte z_26.toInt8.toInt32)) (3 : Int32).toNatClampNeg (vp_nar .byte z_34.toInt8.toInt32)) (4 : Int32).toNatClampNeg (vp_nar .byte z_42.toInt8.toInt32)) (5 : Int32).toNatClampNeg (vp_nar .byte z_50.toInt8.toInt32)) (6 : Int32).toNatClampNeg (vp_nar .byte z_58.toInt8.toInt32)) (7 : Int32).toNatClampNeg (vp_nar .byte z_66.toInt8.toInt32)) (8 : Int32).toNatClampNeg (vp_nar .byte z_74.toInt8.toInt32)) (9 : Int32).toNatClampNeg (vp_nar .byte z_82.toInt8.toInt32)) (10 : Int32).toNatClampNeg (vp_nar .byte z_90.toInt8.toInt32)) (11 : Int32).toNatClampNeg (vp_nar .byte z_98.toInt8.toInt32)) (12 : Int32).toNatClampNeg (vp_nar .byte z_106.toInt8.toInt32)) (13 : Int32).toNatClampNeg (vp_nar .byte z_114.toInt8.toInt32)) (14 : Int32).toNatClampNeg (vp_nar .byte z_122.toInt8.toInt32)) (15 : Int32).toNatClampNeg (vp_nar .byte z_130.toInt8.toInt32)) (16 : Int32).toNatClampNeg (vp_nar .byte z_138.toInt8.toInt32)) (17 : Int32).toNatClampNeg (vp_nar .byte z_146.toInt8.toInt32)) (18 : Int32).toNatClampNeg (vp_nar .byte z_154.toInt8.toInt32)) (19 : Int32).toNatClampNeg (vp_nar .byte z_162.toInt8.toInt32)))), (m_five, .inl (cI, 5, .inl (upd (upd (upd (upd (upd g (0 : Int32).toNatClampNeg a1) (1 : Int32).toNatClampNeg a2) (2 : Int32).toNatClampNeg a3) (3 : Int32).toNatClampNeg a4) (4 : Int32).toNatClampNeg a5)))] H := hP
  have hD : va_D A [(h0, .inr (8, [.int 0, .ref m_world, .ref m_images, .ref m_hasImage, .ref m_luck, .ref m_tape, .int 0, .ref m_five, .int 0, .int 0, .int 0, .int 0, .int 0, .int 0, .int (-1), .ref m_fresh, .ref m_waits, .int 0, .int 0, .int 0, .ref m_figures, .ref m_pile, .long 0, .ref m_times, .ref m_far, .ref m_queue, .ref m_months, .ref m_ways, .ref m_waysOn, .ref m_many, .ref m_width, .ref m_numbers, .ref m_moving])), (m_tape, .inl (cB, 1200, .inl (upd (upd (upd (upd (upd (upd (upd (upd (upd (upd (upd (upd (upd (upd (upd (upd (upd (upd (upd (upd f (0 : Int32).toNatClampNeg (vp_nar .byte z_10.toInt8.toInt32)) (1 : Int32).toNatClampNeg (vp_nar .byte z_18.toInt8.toInt32)) (2 : Int32).toNatClampNeg (vp_nar .byte z_26.toInt8.toInt32)) (3 : Int32).toNatClampNeg (vp_nar .byte z_34.toInt8.toInt32)) (4 : Int32).toNatClampNeg (vp_nar .byte z_42.toInt8.toInt32)) (5 : Int32).toNatClampNeg (vp_nar .byte z_50.toInt8.toInt32)) (6 : Int32).toNatClampNeg (vp_nar .byte z_58.toInt8.toInt32)) (7 : Int32).toNatClampNeg (vp_nar .byte z_66.toInt8.toInt32)) (8 : Int32).toNatClampNeg (vp_nar .byte z_74.toInt8.toInt32)) (9 : Int32).toNatClampNeg (vp_nar .byte z_82.toInt8.toInt32)) (10 : Int32).toNatClampNeg (vp_nar .byte z_90.toInt8.toInt32)) (11 : Int32).toNatClampNeg (vp_nar .byte z_98.toInt8.toInt32)) (12 : Int32).toNatClampNeg (vp_nar .byte z_106.toInt8.toInt32)) (13 : Int32).toNatClampNeg (vp_nar .byte z_114.toInt8.toInt32)) (14 : Int32).toNatClampNeg (vp_nar .byte z_122.toInt8.toInt32)) (15 : Int32).toNatClampNeg (vp_nar .byte z_130.toInt8.toInt32)) (16 : Int32).toNatClampNeg (vp_nar .byte z_138.toInt8.toInt32)) (17 : Int32).toNatClampNeg (vp_nar .byte z_146.toInt8.toInt32)) (18 : Int32).toNatClampNeg (vp_nar .byte z_154.toInt8.toInt32)) (19 : Int32).toNatClampNeg (vp_nar .byte z_162.toInt8.toInt32)))), (m_five, .inl (cI, 5, .inl (upd (upd (upd (upd (upd g (0 : Int32).toNatClampNeg a1) (1 : Int32).toNatClampNeg a2) (2 : Int32).toNatClampNeg a3) (3 : Int32).toNatClampNeg a4) (4 : Int32).toNatClampNeg a5)))] := hD
  refine lv_iinc (v := 20) (lv' := [(6, .int 20), (0, .ref h0), (1, .int a1), (2, .int a2), (3, .int a3), (4, .int a4), (5, .int a5)]) hx hb dX10_feed_95 hl (k := 0) rfl (by decide) (by decide) rfl (fun ls hl => ?_)
  refine lv_goto (tgt := 55) hx hb dX10_feed_98 (by decide) ?_
  refine lv_iload hx hb dX10_feed_55 (lv_at hl 0 rfl) ?_
  refine lv_bipush (v := 20) hx hb dX10_feed_57 (by decide) ?_
  refine lv_icmp_ge (tgt := 101) hx hb dX10_feed_59 (by decide) (fun _ => ?_) (fun c_163 => absurd c_163 (by decide))
  refine lv_aload_n hx hb dX10_feed_101 rfl (lv_at hl 1 rfl) ?_
  refine lv_dup hx hb dX10_feed_102 rfl ?_
  refine va_get (D := (dC, dI)) (ci := 8) (v := .int 0) (C := RX10) (T := TX10) (N := 33) hx hb hts iX10_feed_X10 hown hK hP 0 rfl rfl 6 (by decide) (hts (.fieldLink RX10 97 "LuckyTicketModel" "taped" "I") (List.mem_of_getElem? (i := 1) rfl)) (fun _ h9 => h9) rfl dX10_feed_103 ?_
  refine lv_bipush (v := 20) hx hb dX10_feed_106 (by decide) ?_
  refine lv_iadd hx hb dX10_feed_108 ?_
  refine lv_topi (fun z_164 ez_164 => ?_)
  obtain rfl : z_164 = 20 := ez_164.trans (by decide)
  refine va_put (D := (dC, dI)) (ci := 8) (v := .int 20) (ty := .int) (C := RX10) (T := TX10) (N := 33) hx hb hts iX10_feed_X10 tyX10 tyX10_ok nmX10 hown hK hP hD hS 0 rfl rfl 6 (by decide) (hts (.fieldLink RX10 97 "LuckyTicketModel" "taped" "I") (List.mem_of_getElem? (i := 1) rfl)) (fun _ h9 => h9) rfl (by decide +kernel) rfl rfl (Nat.le_of_ble_eq_true rfl) dX10_feed_109 (fun H locs hP hD hS => ?_)
  have hP : va_P (dC, dI) vwCl [(h0, .inr (8, [.int 0, .ref m_world, .ref m_images, .ref m_hasImage, .ref m_luck, .ref m_tape, .int 20, .ref m_five, .int 0, .int 0, .int 0, .int 0, .int 0, .int 0, .int (-1), .ref m_fresh, .ref m_waits, .int 0, .int 0, .int 0, .ref m_figures, .ref m_pile, .long 0, .ref m_times, .ref m_far, .ref m_queue, .ref m_months, .ref m_ways, .ref m_waysOn, .ref m_many, .ref m_width, .ref m_numbers, .ref m_moving])), (m_tape, .inl (cB, 1200, .inl (upd (upd (upd (upd (upd (upd (upd (upd (upd (upd (upd (upd (upd (upd (upd (upd (upd (upd (upd (upd f (0 : Int32).toNatClampNeg (vp_nar .byte z_10.toInt8.toInt32)) (1 : Int32).toNatClampNeg (vp_nar .byte z_18.toInt8.toInt32)) (2 : Int32).toNatClampNeg (vp_nar .byte z_26.toInt8.toInt32)) (3 : Int32).toNatClampNeg (vp_nar .byte z_34.toInt8.toInt32)) (4 : Int32).toNatClampNeg (vp_nar .byte z_42.toInt8.toInt32)) (5 : Int32).toNatClampNeg (vp_nar .byte z_50.toInt8.toInt32)) (6 : Int32).toNatClampNeg (vp_nar .byte z_58.toInt8.toInt32)) (7 : Int32).toNatClampNeg (vp_nar .byte z_66.toInt8.toInt32)) (8 : Int32).toNatClampNeg (vp_nar .byte z_74.toInt8.toInt32)) (9 : Int32).toNatClampNeg (vp_nar .byte z_82.toInt8.toInt32)) (10 : Int32).toNatClampNeg (vp_nar .byte z_90.toInt8.toInt32)) (11 : Int32).toNatClampNeg (vp_nar .byte z_98.toInt8.toInt32)) (12 : Int32).toNatClampNeg (vp_nar .byte z_106.toInt8.toInt32)) (13 : Int32).toNatClampNeg (vp_nar .byte z_114.toInt8.toInt32)) (14 : Int32).toNatClampNeg (vp_nar .byte z_122.toInt8.toInt32)) (15 : Int32).toNatClampNeg (vp_nar .byte z_130.toInt8.toInt32)) (16 : Int32).toNatClampNeg (vp_nar .byte z_138.toInt8.toInt32)) (17 : Int32).toNatClampNeg (vp_nar .byte z_146.toInt8.toInt32)) (18 : Int32).toNatClampNeg (vp_nar .byte z_154.toInt8.toInt32)) (19 : Int32).toNatClampNeg (vp_nar .byte z_162.toInt8.toInt32)))), (m_five, .inl (cI, 5, .inl (upd (upd (upd (upd (upd g (0 : Int32).toNatClampNeg a1) (1 : Int32).toNatClampNeg a2) (2 : Int32).toNatClampNeg a3) (3 : Int32).toNatClampNeg a4) (4 : Int32).toNatClampNeg a5)))] H := hP
  have hD : va_D A [(h0, .inr (8, [.int 0, .ref m_world, .ref m_images, .ref m_hasImage, .ref m_luck, .ref m_tape, .int 20, .ref m_five, .int 0, .int 0, .int 0, .int 0, .int 0, .int 0, .int (-1), .ref m_fresh, .ref m_waits, .int 0, .int 0, .int 0, .ref m_figures, .ref m_pile, .long 0, .ref m_times, .ref m_far, .ref m_queue, .ref m_months, .ref m_ways, .ref m_waysOn, .ref m_many, .ref m_width, .ref m_numbers, .ref m_moving])), (m_tape, .inl (cB, 1200, .inl (upd (upd (upd (upd (upd (upd (upd (upd (upd (upd (upd (upd (upd (upd (upd (upd (upd (upd (upd (upd f (0 : Int32).toNatClampNeg (vp_nar .byte z_10.toInt8.toInt32)) (1 : Int32).toNatClampNeg (vp_nar .byte z_18.toInt8.toInt32)) (2 : Int32).toNatClampNeg (vp_nar .byte z_26.toInt8.toInt32)) (3 : Int32).toNatClampNeg (vp_nar .byte z_34.toInt8.toInt32)) (4 : Int32).toNatClampNeg (vp_nar .byte z_42.toInt8.toInt32)) (5 : Int32).toNatClampNeg (vp_nar .byte z_50.toInt8.toInt32)) (6 : Int32).toNatClampNeg (vp_nar .byte z_58.toInt8.toInt32)) (7 : Int32).toNatClampNeg (vp_nar .byte z_66.toInt8.toInt32)) (8 : Int32).toNatClampNeg (vp_nar .byte z_74.toInt8.toInt32)) (9 : Int32).toNatClampNeg (vp_nar .byte z_82.toInt8.toInt32)) (10 : Int32).toNatClampNeg (vp_nar .byte z_90.toInt8.toInt32)) (11 : Int32).toNatClampNeg (vp_nar .byte z_98.toInt8.toInt32)) (12 : Int32).toNatClampNeg (vp_nar .byte z_106.toInt8.toInt32)) (13 : Int32).toNatClampNeg (vp_nar .byte z_114.toInt8.toInt32)) (14 : Int32).toNatClampNeg (vp_nar .byte z_122.toInt8.toInt32)) (15 : Int32).toNatClampNeg (vp_nar .byte z_130.toInt8.toInt32)) (16 : Int32).toNatClampNeg (vp_nar .byte z_138.toInt8.toInt32)) (17 : Int32).toNatClampNeg (vp_nar .byte z_146.toInt8.toInt32)) (18 : Int32).toNatClampNeg (vp_nar .byte z_154.toInt8.toInt32)) (19 : Int32).toNatClampNeg (vp_nar .byte z_162.toInt8.toInt32)))), (m_five, .inl (cI, 5, .inl (upd (upd (upd (upd (upd g (0 : Int32).toNatClampNeg a1) (1 : Int32).toNatClampNeg a2) (2 : Int32).toNatClampNeg a3) (3 : Int32).toNatClampNeg a4) (4 : Int32).toNatClampNeg a5)))] := hD
  refine lv_aload_n hx hb dX10_feed_112 rfl (lv_at hl 1 rfl) ?_
  refine va_get (D := (dC, dI)) (ci := 8) (v := .int 20) (C := RX10) (T := TX10) (N := 33) hx hb hts iX10_feed_X10 hown hK hP 0 rfl rfl 6 (by decide) (hts (.fieldLink RX10 97 "LuckyTicketModel" "taped" "I") (List.mem_of_getElem? (i := 1) rfl)) (fun _ h9 => h9) rfl dX10_feed_113 ?_
  have hP9 := hP.sub (ws' := []) [] rfl
  have hD9 := hD.sub (ws' := []) [] (by decide) rfl
  have hK9 := hK.sub (tys' := []) [] rfl
  exact W.iret (v := 20) hx hb hr (fun t ht hW => ⟨⟨20, (), rfl, rfl, by rw [ht]; exact hP9, va_K.moved hW.alike hK9, hD9⟩, hS.F ht⟩) hS.2.2 dX10_feed_116
