theorem dX9_row_0 : decode cX9_row 0 = .ok (.aload_n 0, 1) := by decide +kernel
theorem dX9_row_1 : decode cX9_row 1 = .ok (.iload_n 1, 1) := by decide +kernel
theorem dX9_row_2 : decode cX9_row 2 = .ok (.invokevirtual 206, 3) := by decide +kernel
theorem dX9_row_5 : decode cX9_row 5 = .ok (.ifCond .eq 18, 3) := by decide +kernel
theorem dX9_row_8 : decode cX9_row 8 = .ok (.iload_n 2, 1) := by decide +kernel
theorem dX9_row_9 : decode cX9_row 9 = .ok (.iconst 0, 1) := by decide +kernel
theorem dX9_row_10 : decode cX9_row 10 = .ok (.iconst 3, 1) := by decide +kernel
theorem dX9_row_11 : decode cX9_row 11 = .ok (.invokestatic 158, 3) := by decide +kernel
theorem dX9_row_14 : decode cX9_row 14 = .ok (.ifCond .eq 9, 3) := by decide +kernel
theorem dX9_row_17 : decode cX9_row 17 = .ok (.iload_n 3, 1) := by decide +kernel
theorem dX9_row_18 : decode cX9_row 18 = .ok (.bipush 60, 2) := by decide +kernel
theorem dX9_row_20 : decode cX9_row 20 = .ok (.if_icmp .le 6, 3) := by decide +kernel
theorem dX9_row_23 : decode cX9_row 23 = .ok (.bipush (-2), 2) := by decide +kernel
theorem dX9_row_25 : decode cX9_row 25 = .ok (.ireturn, 1) := by decide +kernel
theorem dX9_row_26 : decode cX9_row 26 = .ok (.iload_n 3, 1) := by decide +kernel
theorem dX9_row_27 : decode cX9_row 27 = .ok (.ifCond .ge 6, 3) := by decide +kernel
theorem dX9_row_30 : decode cX9_row 30 = .ok (.bipush (-3), 2) := by decide +kernel
theorem dX9_row_32 : decode cX9_row 32 = .ok (.ireturn, 1) := by decide +kernel
theorem dX9_row_33 : decode cX9_row 33 = .ok (.aload_n 0, 1) := by decide +kernel
theorem dX9_row_34 : decode cX9_row 34 = .ok (.getfield 50, 3) := by decide +kernel
theorem dX9_row_37 : decode cX9_row 37 = .ok (.iload_n 1, 1) := by decide +kernel
theorem dX9_row_38 : decode cX9_row 38 = .ok (.aaload, 1) := by decide +kernel
theorem dX9_row_39 : decode cX9_row 39 = .ok (.iload_n 2, 1) := by decide +kernel
theorem dX9_row_40 : decode cX9_row 40 = .ok (.iload_n 3, 1) := by decide +kernel
theorem dX9_row_41 : decode cX9_row 41 = .ok (.invokevirtual 340, 3) := by decide +kernel
theorem dX9_row_44 : decode cX9_row 44 = .ok (.iconst 0, 1) := by decide +kernel
theorem dX9_row_45 : decode cX9_row 45 = .ok (.ireturn, 1) := by decide +kernel
theorem hd_yX9_row : yX9_row.cls = RX9 ∧ yX9_row.cls ≠ "java/lang/invoke/MethodHandle" ∧ yX9_row.cls ≠ "java/lang/invoke/VarHandle" ∧ (parseMethodDescriptor yX9_row.desc).map (fun d => d.parameters.length) = some 3 := by decide +kernel
def uX9_row : List Cond := List.cons (.code yX9_row cX9_row 4 (some .int)) (HAppend.hAppend ([.methodLink RX9 206 yX9_hasSlot, .instanceMethod yX9_hasSlot, .selects RX9 yX9_hasSlot yX9_hasSlot, .initialized RX9, .methodLink RX9 158 yX9_isWithin, .static yX9_isWithin, .fieldLink RX9 50 "LuckyTicket" "slots" "[LLuckyTicket$Row;", .methodLink RX9 340 yX3_begin, .instanceMethod yX3_begin, .selects RX3 yX3_begin yX3_begin, .initialized RX3] : List Cond) (HAppend.hAppend uX9_hasSlot (HAppend.hAppend uX9_isWithin (HAppend.hAppend uX3_begin wsX90))))
theorem iX9_row_X9 : ∀ w ∈ wsX90, w ∈ uX9_row := fun _ h => (List.mem_cons_of_mem _ (List.mem_append_right _ (List.mem_append_right _ (List.mem_append_right _ (List.mem_append_right _ h)))))
theorem guX9_row : GU uX9_row := gu_cons (gu_app (by decide +kernel) (gu_ap guX9_hasSlot (gu_ap guX9_isWithin (gu_ap guX3_begin gws_X9))))
theorem gX9_row__X9_hasSlot_V206 : GoodIn uX9_row (wsV RX9 206 RX9 yX9_hasSlot uX9_hasSlot) := gin_V (List.mem_of_getElem? (i := 1) rfl) (List.mem_of_getElem? (i := 2) rfl) (List.mem_of_getElem? (i := 3) rfl) (List.mem_of_getElem? (i := 4) rfl) (fun _ h => (List.mem_cons_of_mem _ (List.mem_append_right _ (List.mem_append_left _ h)))) guX9_hasSlot
theorem gX9_row__X9_isWithin_S158 : GoodIn uX9_row (va_wsS RX9 158 yX9_isWithin uX9_isWithin) := gin_S (List.mem_of_getElem? (i := 5) rfl) (List.mem_of_getElem? (i := 6) rfl) (List.mem_of_getElem? (i := 4) rfl) (fun _ h => (List.mem_cons_of_mem _ (List.mem_append_right _ (List.mem_append_right _ (List.mem_append_left _ h))))) guX9_isWithin
theorem gX9_row__X3_begin_V340 : GoodIn uX9_row (wsV RX9 340 RX3 yX3_begin uX3_begin) := gin_V (List.mem_of_getElem? (i := 8) rfl) (List.mem_of_getElem? (i := 9) rfl) (List.mem_of_getElem? (i := 10) rfl) (List.mem_of_getElem? (i := 11) rfl) (fun _ h => (List.mem_cons_of_mem _ (List.mem_append_right _ (List.mem_append_right _ (List.mem_append_right _ (List.mem_append_left _ h)))))) guX3_begin
set_option maxHeartbeats 4000000 in
set_option maxRecDepth 100000 in
theorem kX9_row (l : Launch) (dC : Nat → ClassId) (dI : Nat → Nat → Nat) (h0 : Nat) (tp : Nat) (sc : Nat) (rd : Nat) (cu : Nat) (im : Nat) (ig : Nat) (sl : Nat) (se : Nat) (sm : Nat) (fc : Nat) (cS : ClassId) (s0 : Nat) (s1 : Nat) (s2 : Nat) (s3 : Nat) (n0 : Nat) (n1 : Nat) (n2 : Nat) (n3 : Nat) (wd0 : Int32) (wd1 : Int32) (wd2 : Int32) (wd3 : Int32) (rz0 : Int32) (rz1 : Int32) (rz2 : Int32) (rz3 : Int32) (cJ0 : ClassId) (cJ1 : ClassId) (cJ2 : ClassId) (cJ3 : ClassId) (g0 : Nat → Int64) (g1 : Nat → Int64) (g2 : Nat → Int64) (g3 : Nat → Int64) (a1 : Int32) (a2 : Int32) (a3 : Int32) (sz : Nat) (b_wd0 : (-1 : Int) ≤ wd0.toInt ∧ wd0.toInt ≤ 3) (b_wd1 : (-1 : Int) ≤ wd1.toInt ∧ wd1.toInt ≤ 3) (b_wd2 : (-1 : Int) ≤ wd2.toInt ∧ wd2.toInt ≤ 3) (b_wd3 : (-1 : Int) ≤ wd3.toInt ∧ wd3.toInt ≤ 3) (b_rz0 : (0 : Int) ≤ rz0.toInt ∧ rz0.toInt ≤ 60) (b_rz1 : (0 : Int) ≤ rz1.toInt ∧ rz1.toInt ≤ 60) (b_rz2 : (0 : Int) ≤ rz2.toInt ∧ rz2.toInt ≤ 60) (b_rz3 : (0 : Int) ≤ rz3.toInt ∧ rz3.toInt ≤ 60) : Met l yX9_row uX9_row ({ frames := 2, cells := 0, slots := 0, locals := 46 }) (va_Pc [.ref h0, .int a1, .int a2, .int a3] (hw (dC, dI) vwCl [(h0, .inr (7, [.ref tp, .ref sc, .ref rd, .ref cu, .ref im, .ref ig, .ref sl, .ref se, .ref sm, .ref fc])), (sl, .inl (cS, 4, .inr (.inr (.inr (.inr (sf4 s0 s1 s2 s3)))))), (s0, .inr (2, [.int wd0, .int rz0, .ref n0])), (s1, .inr (2, [.int wd1, .int rz1, .ref n1])), (s2, .inr (2, [.int wd2, .int rz2, .ref n2])), (s3, .inr (2, [.int wd3, .int rz3, .ref n3])), (n0, .inl (cJ0, 60, .inr (.inl g0))), (n1, .inl (cJ1, 60, .inr (.inl g1))), (n2, .inl (cJ2, 60, .inr (.inl g2))), (n3, .inl (cJ3, 60, .inr (.inl g3)))] [(cS, .object RX3), (cJ0, .long), (cJ1, .long), (cJ2, .long), (cJ3, .long)] sz)) (va_Qi (fun (r : Int32) (_ : Unit) => ((-3 : Int) ≤ r.toInt ∧ r.toInt ≤ 0)) (fun (_ : Unit) t => ∃ (o0_ : Int32) (o1_ : Int32) (o2_ : Int32) (o3_ : Int32) (o4_ : Int32) (o5_ : Int32) (o6_ : Int32) (o7_ : Int32) (o8_ : Nat → Int64) (o9_ : Nat → Int64) (o10_ : Nat → Int64) (o11_ : Nat → Int64), ((-1 : Int) ≤ o0_.toInt ∧ o0_.toInt ≤ 3) ∧ ((0 : Int) ≤ o1_.toInt ∧ o1_.toInt ≤ 60) ∧ ((-1 : Int) ≤ o2_.toInt ∧ o2_.toInt ≤ 3) ∧ ((0 : Int) ≤ o3_.toInt ∧ o3_.toInt ≤ 60) ∧ ((-1 : Int) ≤ o4_.toInt ∧ o4_.toInt ≤ 3) ∧ ((0 : Int) ≤ o5_.toInt ∧ o5_.toInt ≤ 60) ∧ ((-1 : Int) ≤ o6_.toInt ∧ o6_.toInt ≤ 3) ∧ ((0 : Int) ≤ o7_.toInt ∧ o7_.toInt ≤ 60) ∧ va_P (dC, dI) vwCl [(h0, .inr (7, [.ref tp, .ref sc, .ref rd, .ref cu, .ref im, .ref ig, .ref sl, .ref se, .ref sm, .ref fc])), (sl, .inl (cS, 4, .inr (.inr (.inr (.inr (sf4 s0 s1 s2 s3)))))), (s0, .inr (2, [.int o0_, .int o1_, .ref n0])), (s1, .inr (2, [.int o2_, .int o3_, .ref n1])), (s2, .inr (2, [.int o4_, .int o5_, .ref n2])), (s3, .inr (2, [.int o6_, .int o7_, .ref n3])), (n0, .inl (cJ0, 60, .inr (.inl o8_))), (n1, .inl (cJ1, 60, .inr (.inl o9_))), (n2, .inl (cJ2, 60, .inr (.inl o10_))), (n3, .inl (cJ3, 60, .inr (.inl o11_)))] t.heap ∧ va_K (dC, dI) vwCl [(cS, .object RX3), (cJ0, .long), (cJ1, .long), (cJ2, .long), (cJ3, .long)] t ∧ va_D (va_A [(h0, .inr (7, [.ref tp, .ref sc, .ref rd, .ref cu, .ref im, .ref ig, .ref sl, .ref se, .ref sm, .ref fc])), (sl, .inl (cS, 4, .inr (.inr (.inr (.inr (sf4 s0 s1 s2 s3)))))), (s0, .inr (2, [.int wd0, .int rz0, .ref n0])), (s1, .inr (2, [.int wd1, .int rz1, .ref n1])), (s2, .inr (2, [.int wd2, .int rz2, .ref n2])), (s3, .inr (2, [.int wd3, .int rz3, .ref n3])), (n0, .inl (cJ0, 60, .inr (.inl g0))), (n1, .inl (cJ1, 60, .inr (.inl g1))), (n2, .inl (cJ2, 60, .inr (.inl g2))), (n3, .inl (cJ3, 60, .inr (.inl g3)))] sz) [(h0, .inr (7, [.ref tp, .ref sc, .ref rd, .ref cu, .ref im, .ref ig, .ref sl, .ref se, .ref sm, .ref fc])), (sl, .inl (cS, 4, .inr (.inr (.inr (.inr (sf4 s0 s1 s2 s3)))))), (s0, .inr (2, [.int o0_, .int o1_, .ref n0])), (s1, .inr (2, [.int o2_, .int o3_, .ref n1])), (s2, .inr (2, [.int o4_, .int o5_, .ref n2])), (s3, .inr (2, [.int o6_, .int o7_, .ref n3])), (n0, .inl (cJ0, 60, .inr (.inl o8_))), (n1, .inl (cJ1, 60, .inr (.inl o9_))), (n2, .inl (cJ2, 60, .inr (.inl o10_))), (n3, .inl (cJ3, 60, .inr (.inl o11_)))]) (va_A [(h0, .inr (7, [.ref tp, .ref sc, .ref rd, .ref cu, .ref im, .ref ig, .ref sl, .ref se, .ref sm, .ref fc])), (sl, .inl (cS, 4, .inr (.inr (.inr (.inr (sf4 s0 s1 s2 s3)))))), (s0, .inr (2, [.int wd0, .int rz0, .ref n0])), (s1, .inr (2, [.int wd1, .int rz1, .ref n1])), (s2, .inr (2, [.int wd2, .int rz2, .ref n2])), (s3, .inr (2, [.int wd3, .int rz3, .ref n3])), (n0, .inl (cJ0, 60, .inr (.inl g0))), (n1, .inl (cJ1, 60, .inr (.inl g1))), (n2, .inl (cJ2, 60, .inr (.inl g2))), (n3, .inl (cJ3, 60, .inr (.inl g3)))] sz)) 0 0 (va_A [(h0, .inr (7, [.ref tp, .ref sc, .ref rd, .ref cu, .ref im, .ref ig, .ref sl, .ref se, .ref sm, .ref fc])), (sl, .inl (cS, 4, .inr (.inr (.inr (.inr (sf4 s0 s1 s2 s3)))))), (s0, .inr (2, [.int wd0, .int rz0, .ref n0])), (s1, .inr (2, [.int wd1, .int rz1, .ref n1])), (s2, .inr (2, [.int wd2, .int rz2, .ref n2])), (s3, .inr (2, [.int wd3, .int rz3, .ref n3])), (n0, .inl (cJ0, 60, .inr (.inl g0))), (n1, .inl (cJ1, 60, .inr (.inl g1))), (n2, .inl (cJ2, 60, .inr (.inl g2))), (n3, .inl (cJ3, 60, .inr (.inl g3)))] sz) := by
  refine Met.ofW (cc := cX9_row) (maxL := 4) (ret := (some .int)) pn_X9 rfl ?_
  intro p e s m args below meth c s₁ B hml hv
  obtain ⟨rfl, hsz, hP, hK, hD0, hN⟩ := hv
  have hx := B.exec
  have hb := B.bytes
  have hr := B.returns
  have hts := atoms_spec (ws := uX9_row) B.pre
  have hown : s.vm.findClass RX9 = some m.cls := hown_of B.named rfl
  have hlocks := B.notSynchronized
  subst hsz
  have hD := hD0.self (sz := s.heap.size)
  generalize hAe : va_A [(h0, .inr (7, [.ref tp, .ref sc, .ref rd, .ref cu, .ref im, .ref ig, .ref sl, .ref se, .ref sm, .ref fc])), (sl, .inl (cS, 4, .inr (.inr (.inr (.inr (sf4 s0 s1 s2 s3)))))), (s0, .inr (2, [.int wd0, .int rz0, .ref n0])), (s1, .inr (2, [.int wd1, .int rz1, .ref n1])), (s2, .inr (2, [.int wd2, .int rz2, .ref n2])), (s3, .inr (2, [.int wd3, .int rz3, .ref n3])), (n0, .inl (cJ0, 60, .inr (.inl g0))), (n1, .inl (cJ1, 60, .inr (.inl g1))), (n2, .inl (cJ2, 60, .inr (.inl g2))), (n3, .inl (cJ3, 60, .inr (.inl g3)))] s.heap.size = A at hD ⊢
  have hA : ∀ q : Nat, s.heap.size ≤ q → A q := fun q h => by rw [← hAe]; exact Or.inr h
  have hS : va_S A s.heap s.heap [] := va_S.rf
  have hP : va_P (dC, dI) vwCl [(h0, .inr (7, [.ref tp, .ref sc, .ref rd, .ref cu, .ref im, .ref ig, .ref sl, .ref se, .ref sm, .ref fc])), (sl, .inl (cS, 4, .inr (.inr (.inr (.inr (sf4 s0 s1 s2 s3)))))), (s0, .inr (2, [.int wd0, .int rz0, .ref n0])), (s1, .inr (2, [.int wd1, .int rz1, .ref n1])), (s2, .inr (2, [.int wd2, .int rz2, .ref n2])), (s3, .inr (2, [.int wd3, .int rz3, .ref n3])), (n0, .inl (cJ0, 60, .inr (.inl g0))), (n1, .inl (cJ1, 60, .inr (.inl g1))), (n2, .inl (cJ2, 60, .inr (.inl g2))), (n3, .inl (cJ3, 60, .inr (.inl g3)))] s.heap := hP
  have hl := lv_entry ([.ref h0, .int a1, .int a2, .int a3]) (n := 4) (Nat.le_of_ble_eq_true rfl)
  rw [lg_entry_eq]
  generalize (lg_sl ([.ref h0, .int a1, .int a2, .int a3]) ++ List.replicate (4 - (lg_sl ([.ref h0, .int a1, .int a2, .int a3])).length) Slot.unset).toArray = ls at hl ⊢
  have hl : lv_has ls 4 [(0, .ref h0), (1, .int a1), (2, .int a2), (3, .int a3)] := hl
  refine lv_aload_n hx hb dX9_row_0 rfl (lv_at hl 0 rfl) ?_
  refine lv_iload_n hx hb dX9_row_1 rfl (lv_at hl 1 rfl) ?_
  refine vp_callSi (W.runV (As := [.int a1]) (rest := []) ⟨hx, hb, hml, hown, hts⟩ (kX9_hasSlot l dC dI h0 tp sc rd cu im ig sl se sm fc cS s0 s1 s2 s3 a1 ) (cwV 1 hts gX9_row__X9_hasSlot_V206 rfl rfl rfl hd_yX9_hasSlot ⟨lel 2 2 rfl, lel 43 46 rfl⟩) ⟨pw_fb, rcv_X9 hK hP (q0 := 0) rfl, (pw_use hP hK hN [0, 1] rfl [0] rfl)⟩ rfl rfl hl.1 rfl (lv_room (Nat.le_of_ble_eq_true rfl)) dX9_row_2 ⟨lel 0 0 rfl, lel 0 0 rfl⟩) (fun r_22 h_r_22 => ?_)
  obtain ⟨b_r_22, nz_r_22⟩ := h_r_22
  have b_r_22 : (0 : Int) ≤ r_22.toInt ∧ r_22.toInt ≤ 1 := b_r_22
  refine lv_if_eq (tgt := 23) hx hb dX9_row_5 (by decide) (fun c_23 => ?_) (fun c_23 => ?_)
  ·
    have n_c_23 : (r_22.toInt : Int) = 0 := c_eq rfl (by decide) c_23
    have b_r_22 : (0 : Int) ≤ r_22.toInt ∧ r_22.toInt ≤ 0 := r_eq1 b_r_22 (by decide : (0 : Int) ≤ (0 : Int32).toInt ∧ (0 : Int32).toInt ≤ 0) n_c_23 (by decide)
    refine lv_bipush (v := (-2)) hx hb dX9_row_23 (by decide) ?_
    have hP9 := hP.sub (ws' := [(h0, .inr (7, [.ref tp, .ref sc, .ref rd, .ref cu, .ref im, .ref ig, .ref sl, .ref se, .ref sm, .ref fc])), (sl, .inl (cS, 4, .inr (.inr (.inr (.inr (sf4 s0 s1 s2 s3)))))), (s0, .inr (2, [.int wd0, .int rz0, .ref n0])), (s1, .inr (2, [.int wd1, .int rz1, .ref n1])), (s2, .inr (2, [.int wd2, .int rz2, .ref n2])), (s3, .inr (2, [.int wd3, .int rz3, .ref n3])), (n0, .inl (cJ0, 60, .inr (.inl g0))), (n1, .inl (cJ1, 60, .inr (.inl g1))), (n2, .inl (cJ2, 60, .inr (.inl g2))), (n3, .inl (cJ3, 60, .inr (.inl g3)))]) [0, 1, 2, 3, 4, 5, 6, 7, 8, 9] rfl
    have hD9 := hD.sub (ws' := [(h0, .inr (7, [.ref tp, .ref sc, .ref rd, .ref cu, .ref im, .ref ig, .ref sl, .ref se, .ref sm, .ref fc])), (sl, .inl (cS, 4, .inr (.inr (.inr (.inr (sf4 s0 s1 s2 s3)))))), (s0, .inr (2, [.int wd0, .int rz0, .ref n0])), (s1, .inr (2, [.int wd1, .int rz1, .ref n1])), (s2, .inr (2, [.int wd2, .int rz2, .ref n2])), (s3, .inr (2, [.int wd3, .int rz3, .ref n3])), (n0, .inl (cJ0, 60, .inr (.inl g0))), (n1, .inl (cJ1, 60, .inr (.inl g1))), (n2, .inl (cJ2, 60, .inr (.inl g2))), (n3, .inl (cJ3, 60, .inr (.inl g3)))]) [0, 1, 2, 3, 4, 5, 6, 7, 8, 9] (by decide) rfl
    have hK9 := hK.sub (tys' := [(cS, .object RX3), (cJ0, .long), (cJ1, .long), (cJ2, .long), (cJ3, .long)]) [0, 1, 2, 3, 4] rfl
    exact W.iret (v := (-2)) hx hb hr (fun t ht hW => ⟨⟨(-2), (), rfl, (rg_w (by decide : (-2 : Int) ≤ ((-2) : Int32).toInt ∧ ((-2) : Int32).toInt ≤ -2) (by decide) (by decide)), wd0, rz0, wd1, rz1, wd2, rz2, wd3, rz3, g0, g1, g2, g3, b_wd0, b_rz0, b_wd1, b_rz1, b_wd2, b_rz2, b_wd3, b_rz3, by rw [ht]; exact hP9, va_K.moved hW.alike hK9, hD9⟩, hS.F ht⟩) hS.2.2 dX9_row_25
  ·
    have n_c_23 : (r_22.toInt : Int) ≠ 0 := c_ne rfl (by decide) c_23
    have b_r_22 : (1 : Int) ≤ r_22.toInt ∧ r_22.toInt ≤ 1 := r_ne1 b_r_22 (by decide : (0 : Int) ≤ (0 : Int32).toInt ∧ (0 : Int32).toInt ≤ 0) n_c_23 (by decide)
    obtain ⟨b_a1, g_24⟩ := nz_r_22 c_23
    refine lv_iload_n hx hb dX9_row_8 rfl (lv_at hl 2 rfl) ?_
    refine lv_iconst (v := 0) hx hb dX9_row_9 (by decide) ?_
    refine lv_iconst (v := 3) hx hb dX9_row_10 (by decide) ?_
    refine vp_callSi (W.runS (As := [.int a2, .int 0, .int 3]) (rest := []) ⟨hx, hb, hml, hown, hts⟩ (kX9_isWithin l dC dI a2 0 3 ) (va_cwS 3 hts gX9_row__X9_isWithin_S158 rfl rfl rfl hd_yX9_isWithin.2 ⟨lel 1 2 rfl, lel 22 46 rfl⟩) ⟨pn_fb, pn_use⟩ rfl rfl hl.1 rfl (lv_room (Nat.le_of_ble_eq_true rfl)) dX9_row_11 ⟨lel 0 0 rfl, lel 0 0 rfl⟩) (fun r_25 h_r_25 => ?_)
    obtain ⟨b_r_25, nz_r_25⟩ := h_r_25
    have b_r_25 : (0 : Int) ≤ r_25.toInt ∧ r_25.toInt ≤ 1 := b_r_25
    refine lv_if_eq (tgt := 23) hx hb dX9_row_14 (by decide) (fun c_26 => ?_) (fun c_26 => ?_)
    ·
      have n_c_26 : (r_25.toInt : Int) = 0 := c_eq rfl (by decide) c_26
      have b_r_25 : (0 : Int) ≤ r_25.toInt ∧ r_25.toInt ≤ 0 := r_eq1 b_r_25 (by decide : (0 : Int) ≤ (0 : Int32).toInt ∧ (0 : Int32).toInt ≤ 0) n_c_26 (by decide)
      refine lv_bipush (v := (-2)) hx hb dX9_row_23 (by decide) ?_
      have hP9 := hP.sub (ws' := [(h0, .inr (7, [.ref tp, .ref sc, .ref rd, .ref cu, .ref im, .ref ig, .ref sl, .ref se, .ref sm, .ref fc])), (sl, .inl (cS, 4, .inr (.inr (.inr (.inr (sf4 s0 s1 s2 s3)))))), (s0, .inr (2, [.int wd0, .int rz0, .ref n0])), (s1, .inr (2, [.int wd1, .int rz1, .ref n1])), (s2, .inr (2, [.int wd2, .int rz2, .ref n2])), (s3, .inr (2, [.int wd3, .int rz3, .ref n3])), (n0, .inl (cJ0, 60, .inr (.inl g0))), (n1, .inl (cJ1, 60, .inr (.inl g1))), (n2, .inl (cJ2, 60, .inr (.inl g2))), (n3, .inl (cJ3, 60, .inr (.inl g3)))]) [0, 1, 2, 3, 4, 5, 6, 7, 8, 9] rfl
      have hD9 := hD.sub (ws' := [(h0, .inr (7, [.ref tp, .ref sc, .ref rd, .ref cu, .ref im, .ref ig, .ref sl, .ref se, .ref sm, .ref fc])), (sl, .inl (cS, 4, .inr (.inr (.inr (.inr (sf4 s0 s1 s2 s3)))))), (s0, .inr (2, [.int wd0, .int rz0, .ref n0])), (s1, .inr (2, [.int wd1, .int rz1, .ref n1])), (s2, .inr (2, [.int wd2, .int rz2, .ref n2])), (s3, .inr (2, [.int wd3, .int rz3, .ref n3])), (n0, .inl (cJ0, 60, .inr (.inl g0))), (n1, .inl (cJ1, 60, .inr (.inl g1))), (n2, .inl (cJ2, 60, .inr (.inl g2))), (n3, .inl (cJ3, 60, .inr (.inl g3)))]) [0, 1, 2, 3, 4, 5, 6, 7, 8, 9] (by decide) rfl
      have hK9 := hK.sub (tys' := [(cS, .object RX3), (cJ0, .long), (cJ1, .long), (cJ2, .long), (cJ3, .long)]) [0, 1, 2, 3, 4] rfl
      exact W.iret (v := (-2)) hx hb hr (fun t ht hW => ⟨⟨(-2), (), rfl, (rg_w (by decide : (-2 : Int) ≤ ((-2) : Int32).toInt ∧ ((-2) : Int32).toInt ≤ -2) (by decide) (by decide)), wd0, rz0, wd1, rz1, wd2, rz2, wd3, rz3, g0, g1, g2, g3, b_wd0, b_rz0, b_wd1, b_rz1, b_wd2, b_rz2, b_wd3, b_rz3, by rw [ht]; exact hP9, va_K.moved hW.alike hK9, hD9⟩, hS.F ht⟩) hS.2.2 dX9_row_25
    ·
      have n_c_26 : (r_25.toInt : Int) ≠ 0 := c_ne rfl (by decide) c_26
      have b_r_25 : (1 : Int) ≤ r_25.toInt ∧ r_25.toInt ≤ 1 := r_ne1 b_r_25 (by decide : (0 : Int) ≤ (0 : Int32).toInt ∧ (0 : Int32).toInt ≤ 0) n_c_26 (by decide)
      have g_27 := nz_r_25 c_26
      have lt0_g_27 := (by decide : (0 : Int32).toInt = 0)
      have lt1_g_27 := (by decide : (3 : Int32).toInt = 3)
      have b_a2 : (0 : Int) ≤ a2.toInt ∧ a2.toInt ≤ 3 := by
        have q0 := (ti_rng a2)
        have q1 := (by decide : (0 : Int) ≤ (0 : Int32).toInt ∧ (0 : Int32).toInt ≤ 0)
        have q2 := (by decide : (3 : Int) ≤ (3 : Int32).toInt ∧ (3 : Int32).toInt ≤ 3)
        omega
      refine lv_iload_n hx hb dX9_row_17 rfl (lv_at hl 3 rfl) ?_
      refine lv_bipush (v := 60) hx hb dX9_row_18 (by decide) ?_
      refine lv_icmp_le (tgt := 26) hx hb dX9_row_20 (by decide) (fun c_28 => ?_) (fun c_28 => ?_)
      ·
        have n_c_28 : (a3.toInt : Int) ≤ 60 := c_le rfl (by decide) c_28
        have b_a3 : (-2147483648 : Int) ≤ a3.toInt ∧ a3.toInt ≤ 60 := r_le1 (ti_rng a3) (by decide : (60 : Int) ≤ (60 : Int32).toInt ∧ (60 : Int32).toInt ≤ 60) n_c_28 (by decide)
        refine lv_iload_n hx hb dX9_row_26 rfl (lv_at hl 3 rfl) ?_
        refine lv_if_ge (tgt := 33) hx hb dX9_row_27 (by decide) (fun c_29 => ?_) (fun c_29 => ?_)
        ·
          have n_c_29 : (0 : Int) ≤ a3.toInt := c_ge rfl (by decide) c_29
          have b_a3 : (0 : Int) ≤ a3.toInt ∧ a3.toInt ≤ 60 := r_le2 (by decide : (0 : Int) ≤ (0 : Int32).toInt ∧ (0 : Int32).toInt ≤ 0) b_a3 n_c_29 (by decide)
          refine lv_aload_n hx hb dX9_row_33 rfl (lv_at hl 0 rfl) ?_
          refine va_get (D := (dC, dI)) (ci := 7) (v := .ref sl) (C := RX9) (T := TX9) (N := 10) hx hb hts iX9_row_X9 hown hK hP 0 rfl rfl 6 (by decide) (hts (.fieldLink RX9 50 "LuckyTicket" "slots" "[LLuckyTicket$Row;") (List.mem_of_getElem? (i := 7) rfl)) (fun _ h9 => h9) rfl dX9_row_34 ?_
          refine lv_iload_n hx hb dX9_row_37 rfl (lv_at hl 1 rfl) ?_
          rcases (show a1.toInt = 0 ∨ a1.toInt = 1 ∨ a1.toInt = 2 ∨ a1.toInt = 3 by omega) with h_30 | h_30 | h_30 | h_30
          ·
            obtain rfl : a1 = 0 := Int32.toInt_inj.mp (h_30.trans (by decide))
            refine va_aldq hx hb hK hP 1 0 rfl rfl (vp_in_b (by decide : (0 : Int) ≤ (0 : Int32).toInt ∧ (0 : Int32).toInt ≤ 0) (by decide) (by decide)) dX9_row_38 ?_
            refine W.eq (g2 := F0 m 39 ls (.ref s0 :: [])) (congrArg (fun v => F0 m 39 ls (va_rf v :: [])) (sf4_0 s0 s1 s2 s3)) ?_
            refine lv_iload_n hx hb dX9_row_39 rfl (lv_at hl 2 rfl) ?_
            refine lv_iload_n hx hb dX9_row_40 rfl (lv_at hl 3 rfl) ?_
            have hFc := va_free (wc := [(s0, .inr (2, [.int wd0, .int rz0, .ref n0])), (n0, .inl (cJ0, 60, .inr (.inl g0)))]) hD hS hA [2, 6] rfl
            refine va_callv (va_runV (As := [.int a2, .int a3]) (rest := []) ⟨hx, hb, hml, hown, hts⟩ (kX3_begin l dC dI s0 wd0 rz0 n0 cJ0 g0 a2 a3 (s.heap.size) b_wd0 b_rz0 b_a2 b_a3) (cwV 2 hts gX9_row__X3_begin_V340 rfl rfl rfl hd_yX3_begin ⟨lel 2 2 rfl, lel 46 46 rfl⟩) ⟨hw_fb, rcv_X3 hK hP (q0 := 2) rfl, (hw_use hP hD hK hN [2, 6] rfl (by decide) rfl [1] rfl)⟩ rfl rfl hl.1 rfl (lv_room (Nat.le_of_ble_eq_true rfl)) dX9_row_41 ⟨lel 0 0 rfl, lel 0 0 rfl⟩) hS (fun q _ h => hFc q h) hFc (fun u_32 t H1 locs ht hvm hw_r_31 hB hz1 hk1 hS => ?_)
            obtain ⟨o2_33, hP1, hK1, hD1⟩ := hB
            rw [ht] at hP1
            have hK1 := va_K.moved hvm.symm hK1
            obtain ⟨hP, hD⟩ := va_join (wr := [(h0, .inr (7, [.ref tp, .ref sc, .ref rd, .ref cu, .ref im, .ref ig, .ref sl, .ref se, .ref sm, .ref fc])), (sl, .inl (cS, 4, .inr (.inr (.inr (.inr (sf4 s0 s1 s2 s3)))))), (s1, .inr (2, [.int wd1, .int rz1, .ref n1])), (s2, .inr (2, [.int wd2, .int rz2, .ref n2])), (s3, .inr (2, [.int wd3, .int rz3, .ref n3])), (n1, .inl (cJ1, 60, .inr (.inl g1))), (n2, .inl (cJ2, 60, .inr (.inl g2))), (n3, .inl (cJ3, 60, .inr (.inl g3)))]) (w1 := [(s0, .inr (2, [.int a2, .int a3, .ref n0])), (n0, .inl (cJ0, 60, .inr (.inl o2_33)))]) hP hD [2, 6] [0, 1, 3, 4, 5, 7, 8, 9] rfl rfl (by decide) (by decide) hk1 hFc hP1 hD1
            have hK := (hK.sub (tys' := [(cS, .object RX3), (cJ1, .long), (cJ2, .long), (cJ3, .long)]) [0, 2, 3, 4] rfl).app hK1
            generalize H1 = H at hP hS ⊢
            have hP := hP.sub (ws' := [(h0, .inr (7, [.ref tp, .ref sc, .ref rd, .ref cu, .ref im, .ref ig, .ref sl, .ref se, .ref sm, .ref fc])), (sl, .inl (cS, 4, .inr (.inr (.inr (.inr (sf4 s0 s1 s2 s3)))))), (s0, .inr (2, [.int a2, .int a3, .ref n0])), (s1, .inr (2, [.int wd1, .int rz1, .ref n1])), (s2, .inr (2, [.int wd2, .int rz2, .ref n2])), (s3, .inr (2, [.int wd3, .int rz3, .ref n3])), (n0, .inl (cJ0, 60, .inr (.inl o2_33))), (n1, .inl (cJ1, 60, .inr (.inl g1))), (n2, .inl (cJ2, 60, .inr (.inl g2))), (n3, .inl (cJ3, 60, .inr (.inl g3)))]) [0, 1, 8, 2, 3, 4, 9, 5, 6, 7] rfl
            have hD := hD.sub (ws' := [(h0, .inr (7, [.ref tp, .ref sc, .ref rd, .ref cu, .ref im, .ref ig, .ref sl, .ref se, .ref sm, .ref fc])), (sl, .inl (cS, 4, .inr (.inr (.inr (.inr (sf4 s0 s1 s2 s3)))))), (s0, .inr (2, [.int a2, .int a3, .ref n0])), (s1, .inr (2, [.int wd1, .int rz1, .ref n1])), (s2, .inr (2, [.int wd2, .int rz2, .ref n2])), (s3, .inr (2, [.int wd3, .int rz3, .ref n3])), (n0, .inl (cJ0, 60, .inr (.inl o2_33))), (n1, .inl (cJ1, 60, .inr (.inl g1))), (n2, .inl (cJ2, 60, .inr (.inl g2))), (n3, .inl (cJ3, 60, .inr (.inl g3)))]) [0, 1, 8, 2, 3, 4, 9, 5, 6, 7] (by decide) rfl
            have hK := hK.sub (tys' := [(cS, .object RX3), (cJ0, .long), (cJ1, .long), (cJ2, .long), (cJ3, .long)]) [0, 4, 1, 2, 3] rfl
            have hP : va_P (dC, dI) vwCl [(h0, .inr (7, [.ref tp, .ref sc, .ref rd, .ref cu, .ref im, .ref ig, .ref sl, .ref se, .ref sm, .ref fc])), (sl, .inl (cS, 4, .inr (.inr (.inr (.inr (sf4 s0 s1 s2 s3)))))), (s0, .inr (2, [.int a2, .int a3, .ref n0])), (s1, .inr (2, [.int wd1, .int rz1, .ref n1])), (s2, .inr (2, [.int wd2, .int rz2, .ref n2])), (s3, .inr (2, [.int wd3, .int rz3, .ref n3])), (n0, .inl (cJ0, 60, .inr (.inl o2_33))), (n1, .inl (cJ1, 60, .inr (.inl g1))), (n2, .inl (cJ2, 60, .inr (.inl g2))), (n3, .inl (cJ3, 60, .inr (.inl g3)))] H := hP
            have hD : va_D A [(h0, .inr (7, [.ref tp, .ref sc, .ref rd, .ref cu, .ref im, .ref ig, .ref sl, .ref se, .ref sm, .ref fc])), (sl, .inl (cS, 4, .inr (.inr (.inr (.inr (sf4 s0 s1 s2 s3)))))), (s0, .inr (2, [.int a2, .int a3, .ref n0])), (s1, .inr (2, [.int wd1, .int rz1, .ref n1])), (s2, .inr (2, [.int wd2, .int rz2, .ref n2])), (s3, .inr (2, [.int wd3, .int rz3, .ref n3])), (n0, .inl (cJ0, 60, .inr (.inl o2_33))), (n1, .inl (cJ1, 60, .inr (.inl g1))), (n2, .inl (cJ2, 60, .inr (.inl g2))), (n3, .inl (cJ3, 60, .inr (.inl g3)))] := hD
            have hK : va_K (dC, dI) vwCl [(cS, .object RX3), (cJ0, .long), (cJ1, .long), (cJ2, .long), (cJ3, .long)] s := hK
            refine lv_iconst (v := 0) hx hb dX9_row_44 (by decide) ?_
            have hP9 := hP.sub (ws' := [(h0, .inr (7, [.ref tp, .ref sc, .ref rd, .ref cu, .ref im, .ref ig, .ref sl, .ref se, .ref sm, .ref fc])), (sl, .inl (cS, 4, .inr (.inr (.inr (.inr (sf4 s0 s1 s2 s3)))))), (s0, .inr (2, [.int a2, .int a3, .ref n0])), (s1, .inr (2, [.int wd1, .int rz1, .ref n1])), (s2, .inr (2, [.int wd2, .int rz2, .ref n2])), (s3, .inr (2, [.int wd3, .int rz3, .ref n3])), (n0, .inl (cJ0, 60, .inr (.inl o2_33))), (n1, .inl (cJ1, 60, .inr (.inl g1))), (n2, .inl (cJ2, 60, .inr (.inl g2))), (n3, .inl (cJ3, 60, .inr (.inl g3)))]) [0, 1, 2, 3, 4, 5, 6, 7, 8, 9] rfl
            have hD9 := hD.sub (ws' := [(h0, .inr (7, [.ref tp, .ref sc, .ref rd, .ref cu, .ref im, .ref ig, .ref sl, .ref se, .ref sm, .ref fc])), (sl, .inl (cS, 4, .inr (.inr (.inr (.inr (sf4 s0 s1 s2 s3)))))), (s0, .inr (2, [.int a2, .int a3, .ref n0])), (s1, .inr (2, [.int wd1, .int rz1, .ref n1])), (s2, .inr (2, [.int wd2, .int rz2, .ref n2])), (s3, .inr (2, [.int wd3, .int rz3, .ref n3])), (n0, .inl (cJ0, 60, .inr (.inl o2_33))), (n1, .inl (cJ1, 60, .inr (.inl g1))), (n2, .inl (cJ2, 60, .inr (.inl g2))), (n3, .inl (cJ3, 60, .inr (.inl g3)))]) [0, 1, 2, 3, 4, 5, 6, 7, 8, 9] (by decide) rfl
            have hK9 := hK.sub (tys' := [(cS, .object RX3), (cJ0, .long), (cJ1, .long), (cJ2, .long), (cJ3, .long)]) [0, 1, 2, 3, 4] rfl
            exact W.iret (v := 0) hx hb hr (fun t ht hW => ⟨⟨0, (), rfl, (rg_w (by decide : (0 : Int) ≤ (0 : Int32).toInt ∧ (0 : Int32).toInt ≤ 0) (by decide) (by decide)), a2, a3, wd1, rz1, wd2, rz2, wd3, rz3, o2_33, g1, g2, g3, (rg_w b_a2 (by decide) (by decide)), b_a3, b_wd1, b_rz1, b_wd2, b_rz2, b_wd3, b_rz3, by rw [ht]; exact hP9, va_K.moved hW.alike hK9, hD9⟩, hS.F ht⟩) hS.2.2 dX9_row_45
          ·
            obtain rfl : a1 = 1 := Int32.toInt_inj.mp (h_30.trans (by decide))
            refine va_aldq hx hb hK hP 1 0 rfl rfl (vp_in_b (by decide : (1 : Int) ≤ (1 : Int32).toInt ∧ (1 : Int32).toInt ≤ 1) (by decide) (by decide)) dX9_row_38 ?_
            refine W.eq (g2 := F0 m 39 ls (.ref s1 :: [])) (congrArg (fun v => F0 m 39 ls (va_rf v :: [])) (sf4_1 s0 s1 s2 s3)) ?_
            refine lv_iload_n hx hb dX9_row_39 rfl (lv_at hl 2 rfl) ?_
            refine lv_iload_n hx hb dX9_row_40 rfl (lv_at hl 3 rfl) ?_
            have hFc := va_free (wc := [(s1, .inr (2, [.int wd1, .int rz1, .ref n1])), (n1, .inl (cJ1, 60, .inr (.inl g1)))]) hD hS hA [3, 7] rfl
            refine va_callv (va_runV (As := [.int a2, .int a3]) (rest := []) ⟨hx, hb, hml, hown, hts⟩ (kX3_begin l dC dI s1 wd1 rz1 n1 cJ1 g1 a2 a3 (s.heap.size) b_wd1 b_rz1 b_a2 b_a3) (cwV 2 hts gX9_row__X3_begin_V340 rfl rfl rfl hd_yX3_begin ⟨lel 2 2 rfl, lel 46 46 rfl⟩) ⟨hw_fb, rcv_X3 hK hP (q0 := 3) rfl, (hw_use hP hD hK hN [3, 7] rfl (by decide) rfl [2] rfl)⟩ rfl rfl hl.1 rfl (lv_room (Nat.le_of_ble_eq_true rfl)) dX9_row_41 ⟨lel 0 0 rfl, lel 0 0 rfl⟩) hS (fun q _ h => hFc q h) hFc (fun u_35 t H1 locs ht hvm hw_r_34 hB hz1 hk1 hS => ?_)
            obtain ⟨o2_36, hP1, hK1, hD1⟩ := hB
            rw [ht] at hP1
            have hK1 := va_K.moved hvm.symm hK1
            obtain ⟨hP, hD⟩ := va_join (wr := [(h0, .inr (7, [.ref tp, .ref sc, .ref rd, .ref cu, .ref im, .ref ig, .ref sl, .ref se, .ref sm, .ref fc])), (sl, .inl (cS, 4, .inr (.inr (.inr (.inr (sf4 s0 s1 s2 s3)))))), (s0, .inr (2, [.int wd0, .int rz0, .ref n0])), (s2, .inr (2, [.int wd2, .int rz2, .ref n2])), (s3, .inr (2, [.int wd3, .int rz3, .ref n3])), (n0, .inl (cJ0, 60, .inr (.inl g0))), (n2, .inl (cJ2, 60, .inr (.inl g2))), (n3, .inl (cJ3, 60, .inr (.inl g3)))]) (w1 := [(s1, .inr (2, [.int a2, .int a3, .ref n1])), (n1, .inl (cJ1, 60, .inr (.inl o2_36)))]) hP hD [3, 7] [0, 1, 2, 4, 5, 6, 8, 9] rfl rfl (by decide) (by decide) hk1 hFc hP1 hD1
            have hK := (hK.sub (tys' := [(cS, .object RX3), (cJ0, .long), (cJ2, .long), (cJ3, .long)]) [0, 1, 3, 4] rfl).app hK1
            generalize H1 = H at hP hS ⊢
            have hP := hP.sub (ws' := [(h0, .inr (7, [.ref tp, .ref sc, .ref rd, .ref cu, .ref im, .ref ig, .ref sl, .ref se, .ref sm, .ref fc])), (sl, .inl (cS, 4, .inr (.inr (.inr (.inr (sf4 s0 s1 s2 s3)))))), (s0, .inr (2, [.int wd0, .int rz0, .ref n0])), (s1, .inr (2, [.int a2, .int a3, .ref n1])), (s2, .inr (2, [.int wd2, .int rz2, .ref n2])), (s3, .inr (2, [.int wd3, .int rz3, .ref n3])), (n0, .inl (cJ0, 60, .inr (.inl g0))), (n1, .inl (cJ1, 60, .inr (.inl o2_36))), (n2, .inl (cJ2, 60, .inr (.inl g2))), (n3, .inl (cJ3, 60, .inr (.inl g3)))]) [0, 1, 2, 8, 3, 4, 5, 9, 6, 7] rfl
            have hD := hD.sub (ws' := [(h0, .inr (7, [.ref tp, .ref sc, .ref rd, .ref cu, .ref im, .ref ig, .ref sl, .ref se, .ref sm, .ref fc])), (sl, .inl (cS, 4, .inr (.inr (.inr (.inr (sf4 s0 s1 s2 s3)))))), (s0, .inr (2, [.int wd0, .int rz0, .ref n0])), (s1, .inr (2, [.int a2, .int a3, .ref n1])), (s2, .inr (2, [.int wd2, .int rz2, .ref n2])), (s3, .inr (2, [.int wd3, .int rz3, .ref n3])), (n0, .inl (cJ0, 60, .inr (.inl g0))), (n1, .inl (cJ1, 60, .inr (.inl o2_36))), (n2, .inl (cJ2, 60, .inr (.inl g2))), (n3, .inl (cJ3, 60, .inr (.inl g3)))]) [0, 1, 2, 8, 3, 4, 5, 9, 6, 7] (by decide) rfl
            have hK := hK.sub (tys' := [(cS, .object RX3), (cJ0, .long), (cJ1, .long), (cJ2, .long), (cJ3, .long)]) [0, 1, 4, 2, 3] rfl
            have hP : va_P (dC, dI) vwCl [(h0, .inr (7, [.ref tp, .ref sc, .ref rd, .ref cu, .ref im, .ref ig, .ref sl, .ref se, .ref sm, .ref fc])), (sl, .inl (cS, 4, .inr (.inr (.inr (.inr (sf4 s0 s1 s2 s3)))))), (s0, .inr (2, [.int wd0, .int rz0, .ref n0])), (s1, .inr (2, [.int a2, .int a3, .ref n1])), (s2, .inr (2, [.int wd2, .int rz2, .ref n2])), (s3, .inr (2, [.int wd3, .int rz3, .ref n3])), (n0, .inl (cJ0, 60, .inr (.inl g0))), (n1, .inl (cJ1, 60, .inr (.inl o2_36))), (n2, .inl (cJ2, 60, .inr (.inl g2))), (n3, .inl (cJ3, 60, .inr (.inl g3)))] H := hP
            have hD : va_D A [(h0, .inr (7, [.ref tp, .ref sc, .ref rd, .ref cu, .ref im, .ref ig, .ref sl, .ref se, .ref sm, .ref fc])), (sl, .inl (cS, 4, .inr (.inr (.inr (.inr (sf4 s0 s1 s2 s3)))))), (s0, .inr (2, [.int wd0, .int rz0, .ref n0])), (s1, .inr (2, [.int a2, .int a3, .ref n1])), (s2, .inr (2, [.int wd2, .int rz2, .ref n2])), (s3, .inr (2, [.int wd3, .int rz3, .ref n3])), (n0, .inl (cJ0, 60, .inr (.inl g0))), (n1, .inl (cJ1, 60, .inr (.inl o2_36))), (n2, .inl (cJ2, 60, .inr (.inl g2))), (n3, .inl (cJ3, 60, .inr (.inl g3)))] := hD
            have hK : va_K (dC, dI) vwCl [(cS, .object RX3), (cJ0, .long), (cJ1, .long), (cJ2, .long), (cJ3, .long)] s := hK
            refine lv_iconst (v := 0) hx hb dX9_row_44 (by decide) ?_
            have hP9 := hP.sub (ws' := [(h0, .inr (7, [.ref tp, .ref sc, .ref rd, .ref cu, .ref im, .ref ig, .ref sl, .ref se, .ref sm, .ref fc])), (sl, .inl (cS, 4, .inr (.inr (.inr (.inr (sf4 s0 s1 s2 s3)))))), (s0, .inr (2, [.int wd0, .int rz0, .ref n0])), (s1, .inr (2, [.int a2, .int a3, .ref n1])), (s2, .inr (2, [.int wd2, .int rz2, .ref n2])), (s3, .inr (2, [.int wd3, .int rz3, .ref n3])), (n0, .inl (cJ0, 60, .inr (.inl g0))), (n1, .inl (cJ1, 60, .inr (.inl o2_36))), (n2, .inl (cJ2, 60, .inr (.inl g2))), (n3, .inl (cJ3, 60, .inr (.inl g3)))]) [0, 1, 2, 3, 4, 5, 6, 7, 8, 9] rfl
            have hD9 := hD.sub (ws' := [(h0, .inr (7, [.ref tp, .ref sc, .ref rd, .ref cu, .ref im, .ref ig, .ref sl, .ref se, .ref sm, .ref fc])), (sl, .inl (cS, 4, .inr (.inr (.inr (.inr (sf4 s0 s1 s2 s3)))))), (s0, .inr (2, [.int wd0, .int rz0, .ref n0])), (s1, .inr (2, [.int a2, .int a3, .ref n1])), (s2, .inr (2, [.int wd2, .int rz2, .ref n2])), (s3, .inr (2, [.int wd3, .int rz3, .ref n3])), (n0, .inl (cJ0, 60, .inr (.inl g0))), (n1, .inl (cJ1, 60, .inr (.inl o2_36))), (n2, .inl (cJ2, 60, .inr (.inl g2))), (n3, .inl (cJ3, 60, .inr (.inl g3)))]) [0, 1, 2, 3, 4, 5, 6, 7, 8, 9] (by decide) rfl
            have hK9 := hK.sub (tys' := [(cS, .object RX3), (cJ0, .long), (cJ1, .long), (cJ2, .long), (cJ3, .long)]) [0, 1, 2, 3, 4] rfl
            exact W.iret (v := 0) hx hb hr (fun t ht hW => ⟨⟨0, (), rfl, (rg_w (by decide : (0 : Int) ≤ (0 : Int32).toInt ∧ (0 : Int32).toInt ≤ 0) (by decide) (by decide)), wd0, rz0, a2, a3, wd2, rz2, wd3, rz3, g0, o2_36, g2, g3, b_wd0, b_rz0, (rg_w b_a2 (by decide) (by decide)), b_a3, b_wd2, b_rz2, b_wd3, b_rz3, by rw [ht]; exact hP9, va_K.moved hW.alike hK9, hD9⟩, hS.F ht⟩) hS.2.2 dX9_row_45
          ·
            obtain rfl : a1 = 2 := Int32.toInt_inj.mp (h_30.trans (by decide))
            refine va_aldq hx hb hK hP 1 0 rfl rfl (vp_in_b (by decide : (2 : Int) ≤ (2 : Int32).toInt ∧ (2 : Int32).toInt ≤ 2) (by decide) (by decide)) dX9_row_38 ?_
            refine W.eq (g2 := F0 m 39 ls (.ref s2 :: [])) (congrArg (fun v => F0 m 39 ls (va_rf v :: [])) (sf4_2 s0 s1 s2 s3)) ?_
            refine lv_iload_n hx hb dX9_row_39 rfl (lv_at hl 2 rfl) ?_
            refine lv_iload_n hx hb dX9_row_40 rfl (lv_at hl 3 rfl) ?_
            have hFc := va_free (wc := [(s2, .inr (2, [.int wd2, .int rz2, .ref n2])), (n2, .inl (cJ2, 60, .inr (.inl g2)))]) hD hS hA [4, 8] rfl
            refine va_callv (va_runV (As := [.int a2, .int a3]) (rest := []) ⟨hx, hb, hml, hown, hts⟩ (kX3_begin l dC dI s2 wd2 rz2 n2 cJ2 g2 a2 a3 (s.heap.size) b_wd2 b_rz2 b_a2 b_a3) (cwV 2 hts gX9_row__X3_begin_V340 rfl rfl rfl hd_yX3_begin ⟨lel 2 2 rfl, lel 46 46 rfl⟩) ⟨hw_fb, rcv_X3 hK hP (q0 := 4) rfl, (hw_use hP hD hK hN [4, 8] rfl (by decide) rfl [3] rfl)⟩ rfl rfl hl.1 rfl (lv_room (Nat.le_of_ble_eq_true rfl)) dX9_row_41 ⟨lel 0 0 rfl, lel 0 0 rfl⟩) hS (fun q _ h => hFc q h) hFc (fun u_38 t H1 locs ht hvm hw_r_37 hB hz1 hk1 hS => ?_)
            obtain ⟨o2_39, hP1, hK1, hD1⟩ := hB
            rw [ht] at hP1
            have hK1 := va_K.moved hvm.symm hK1
            obtain ⟨hP, hD⟩ := va_join (wr := [(h0, .inr (7, [.ref tp, .ref sc, .ref rd, .ref cu, .ref im, .ref ig, .ref sl, .ref se, .ref sm, .ref fc])), (sl, .inl (cS, 4, .inr (.inr (.inr (.inr (sf4 s0 s1 s2 s3)))))), (s0, .inr (2, [.int wd0, .int rz0, .ref n0])), (s1, .inr (2, [.int wd1, .int rz1, .ref n1])), (s3, .inr (2, [.int wd3, .int rz3, .ref n3])), (n0, .inl (cJ0, 60, .inr (.inl g0))), (n1, .inl (cJ1, 60, .inr (.inl g1))), (n3, .inl (cJ3, 60, .inr (.inl g3)))]) (w1 := [(s2, .inr (2, [.int a2, .int a3, .ref n2])), (n2, .inl (cJ2, 60, .inr (.inl o2_39)))]) hP hD [4, 8] [0, 1, 2, 3, 5, 6, 7, 9] rfl rfl (by decide) (by decide) hk1 hFc hP1 hD1
            have hK := (hK.sub (tys' := [(cS, .object RX3), (cJ0, .long), (cJ1, .long), (cJ3, .long)]) [0, 1, 2, 4] rfl).app hK1
            generalize H1 = H at hP hS ⊢
            have hP := hP.sub (ws' := [(h0, .inr (7, [.ref tp, .ref sc, .ref rd, .ref cu, .ref im, .ref ig, .ref sl, .ref se, .ref sm, .ref fc])), (sl, .inl (cS, 4, .inr (.inr (.inr (.inr (sf4 s0 s1 s2 s3)))))), (s0, .inr (2, [.int wd0, .int rz0, .ref n0])), (s1, .inr (2, [.int wd1, .int rz1, .ref n1])), (s2, .inr (2, [.int a2, .int a3, .ref n2])), (s3, .inr (2, [.int wd3, .int rz3, .ref n3])), (n0, .inl (cJ0, 60, .inr (.inl g0))), (n1, .inl (cJ1, 60, .inr (.inl g1))), (n2, .inl (cJ2, 60, .inr (.inl o2_39))), (n3, .inl (cJ3, 60, .inr (.inl g3)))]) [0, 1, 2, 3, 8, 4, 5, 6, 9, 7] rfl
            have hD := hD.sub (ws' := [(h0, .inr (7, [.ref tp, .ref sc, .ref rd, .ref cu, .ref im, .ref ig, .ref sl, .ref se, .ref sm, .ref fc])), (sl, .inl (cS, 4, .inr (.inr (.inr (.inr (sf4 s0 s1 s2 s3)))))), (s0, .inr (2, [.int wd0, .int rz0, .ref n0])), (s1, .inr (2, [.int wd1, .int rz1, .ref n1])), (s2, .inr (2, [.int a2, .int a3, .ref n2])), (s3, .inr (2, [.int wd3, .int rz3, .ref n3])), (n0, .inl (cJ0, 60, .inr (.inl g0))), (n1, .inl (cJ1, 60, .inr (.inl g1))), (n2, .inl (cJ2, 60, .inr (.inl o2_39))), (n3, .inl (cJ3, 60, .inr (.inl g3)))]) [0, 1, 2, 3, 8, 4, 5, 6, 9, 7] (by decide) rfl
            have hK := hK.sub (tys' := [(cS, .object RX3), (cJ0, .long), (cJ1, .long), (cJ2, .long), (cJ3, .long)]) [0, 1, 2, 4, 3] rfl
            have hP : va_P (dC, dI) vwCl [(h0, .inr (7, [.ref tp, .ref sc, .ref rd, .ref cu, .ref im, .ref ig, .ref sl, .ref se, .ref sm, .ref fc])), (sl, .inl (cS, 4, .inr (.inr (.inr (.inr (sf4 s0 s1 s2 s3)))))), (s0, .inr (2, [.int wd0, .int rz0, .ref n0])), (s1, .inr (2, [.int wd1, .int rz1, .ref n1])), (s2, .inr (2, [.int a2, .int a3, .ref n2])), (s3, .inr (2, [.int wd3, .int rz3, .ref n3])), (n0, .inl (cJ0, 60, .inr (.inl g0))), (n1, .inl (cJ1, 60, .inr (.inl g1))), (n2, .inl (cJ2, 60, .inr (.inl o2_39))), (n3, .inl (cJ3, 60, .inr (.inl g3)))] H := hP
            have hD : va_D A [(h0, .inr (7, [.ref tp, .ref sc, .ref rd, .ref cu, .ref im, .ref ig, .ref sl, .ref se, .ref sm, .ref fc])), (sl, .inl (cS, 4, .inr (.inr (.inr (.inr (sf4 s0 s1 s2 s3)))))), (s0, .inr (2, [.int wd0, .int rz0, .ref n0])), (s1, .inr (2, [.int wd1, .int rz1, .ref n1])), (s2, .inr (2, [.int a2, .int a3, .ref n2])), (s3, .inr (2, [.int wd3, .int rz3, .ref n3])), (n0, .inl (cJ0, 60, .inr (.inl g0))), (n1, .inl (cJ1, 60, .inr (.inl g1))), (n2, .inl (cJ2, 60, .inr (.inl o2_39))), (n3, .inl (cJ3, 60, .inr (.inl g3)))] := hD
            have hK : va_K (dC, dI) vwCl [(cS, .object RX3), (cJ0, .long), (cJ1, .long), (cJ2, .long), (cJ3, .long)] s := hK
            refine lv_iconst (v := 0) hx hb dX9_row_44 (by decide) ?_
            have hP9 := hP.sub (ws' := [(h0, .inr (7, [.ref tp, .ref sc, .ref rd, .ref cu, .ref im, .ref ig, .ref sl, .ref se, .ref sm, .ref fc])), (sl, .inl (cS, 4, .inr (.inr (.inr (.inr (sf4 s0 s1 s2 s3)))))), (s0, .inr (2, [.int wd0, .int rz0, .ref n0])), (s1, .inr (2, [.int wd1, .int rz1, .ref n1])), (s2, .inr (2, [.int a2, .int a3, .ref n2])), (s3, .inr (2, [.int wd3, .int rz3, .ref n3])), (n0, .inl (cJ0, 60, .inr (.inl g0))), (n1, .inl (cJ1, 60, .inr (.inl g1))), (n2, .inl (cJ2, 60, .inr (.inl o2_39))), (n3, .inl (cJ3, 60, .inr (.inl g3)))]) [0, 1, 2, 3, 4, 5, 6, 7, 8, 9] rfl
            have hD9 := hD.sub (ws' := [(h0, .inr (7, [.ref tp, .ref sc, .ref rd, .ref cu, .ref im, .ref ig, .ref sl, .ref se, .ref sm, .ref fc])), (sl, .inl (cS, 4, .inr (.inr (.inr (.inr (sf4 s0 s1 s2 s3)))))), (s0, .inr (2, [.int wd0, .int rz0, .ref n0])), (s1, .inr (2, [.int wd1, .int rz1, .ref n1])), (s2, .inr (2, [.int a2, .int a3, .ref n2])), (s3, .inr (2, [.int wd3, .int rz3, .ref n3])), (n0, .inl (cJ0, 60, .inr (.inl g0))), (n1, .inl (cJ1, 60, .inr (.inl g1))), (n2, .inl (cJ2, 60, .inr (.inl o2_39))), (n3, .inl (cJ3, 60, .inr (.inl g3)))]) [0, 1, 2, 3, 4, 5, 6, 7, 8, 9] (by decide) rfl
            have hK9 := hK.sub (tys' := [(cS, .object RX3), (cJ0, .long), (cJ1, .long), (cJ2, .long), (cJ3, .long)]) [0, 1, 2, 3, 4] rfl
            exact W.iret (v := 0) hx hb hr (fun t ht hW => ⟨⟨0, (), rfl, (rg_w (by decide : (0 : Int) ≤ (0 : Int32).toInt ∧ (0 : Int32).toInt ≤ 0) (by decide) (by decide)), wd0, rz0, wd1, rz1, a2, a3, wd3, rz3, g0, g1, o2_39, g3, b_wd0, b_rz0, b_wd1, b_rz1, (rg_w b_a2 (by decide) (by decide)), b_a3, b_wd3, b_rz3, by rw [ht]; exact hP9, va_K.moved hW.alike hK9, hD9⟩, hS.F ht⟩) hS.2.2 dX9_row_45
          ·
            obtain rfl : a1 = 3 := Int32.toInt_inj.mp (h_30.trans (by decide))
            refine va_aldq hx hb hK hP 1 0 rfl rfl (vp_in_b (by decide : (3 : Int) ≤ (3 : Int32).toInt ∧ (3 : Int32).toInt ≤ 3) (by decide) (by decide)) dX9_row_38 ?_
            refine W.eq (g2 := F0 m 39 ls (.ref s3 :: [])) (congrArg (fun v => F0 m 39 ls (va_rf v :: [])) (sf4_3 s0 s1 s2 s3)) ?_
            refine lv_iload_n hx hb dX9_row_39 rfl (lv_at hl 2 rfl) ?_
            refine lv_iload_n hx hb dX9_row_40 rfl (lv_at hl 3 rfl) ?_
            have hFc := va_free (wc := [(s3, .inr (2, [.int wd3, .int rz3, .ref n3])), (n3, .inl (cJ3, 60, .inr (.inl g3)))]) hD hS hA [5, 9] rfl
            refine va_callv (va_runV (As := [.int a2, .int a3]) (rest := []) ⟨hx, hb, hml, hown, hts⟩ (kX3_begin l dC dI s3 wd3 rz3 n3 cJ3 g3 a2 a3 (s.heap.size) b_wd3 b_rz3 b_a2 b_a3) (cwV 2 hts gX9_row__X3_begin_V340 rfl rfl rfl hd_yX3_begin ⟨lel 2 2 rfl, lel 46 46 rfl⟩) ⟨hw_fb, rcv_X3 hK hP (q0 := 5) rfl, (hw_use hP hD hK hN [5, 9] rfl (by decide) rfl [4] rfl)⟩ rfl rfl hl.1 rfl (lv_room (Nat.le_of_ble_eq_true rfl)) dX9_row_41 ⟨lel 0 0 rfl, lel 0 0 rfl⟩) hS (fun q _ h => hFc q h) hFc (fun u_41 t H1 locs ht hvm hw_r_40 hB hz1 hk1 hS => ?_)
            obtain ⟨o2_42, hP1, hK1, hD1⟩ := hB
            rw [ht] at hP1
            have hK1 := va_K.moved hvm.symm hK1
            obtain ⟨hP, hD⟩ := va_join (wr := [(h0, .inr (7, [.ref tp, .ref sc, .ref rd, .ref cu, .ref im, .ref ig, .ref sl, .ref se, .ref sm, .ref fc])), (sl, .inl (cS, 4, .inr (.inr (.inr (.inr (sf4 s0 s1 s2 s3)))))), (s0, .inr (2, [.int wd0, .int rz0, .ref n0])), (s1, .inr (2, [.int wd1, .int rz1, .ref n1])), (s2, .inr (2, [.int wd2, .int rz2, .ref n2])), (n0, .inl (cJ0, 60, .inr (.inl g0))), (n1, .inl (cJ1, 60, .inr (.inl g1))), (n2, .inl (cJ2, 60, .inr (.inl g2)))]) (w1 := [(s3, .inr (2, [.int a2, .int a3, .ref n3])), (n3, .inl (cJ3, 60, .inr (.inl o2_42)))]) hP hD [5, 9] [0, 1, 2, 3, 4, 6, 7, 8] rfl rfl (by decide) (by decide) hk1 hFc hP1 hD1
            have hK := (hK.sub (tys' := [(cS, .object RX3), (cJ0, .long), (cJ1, .long), (cJ2, .long)]) [0, 1, 2, 3] rfl).app hK1
            generalize H1 = H at hP hS ⊢
            have hP := hP.sub (ws' := [(h0, .inr (7, [.ref tp, .ref sc, .ref rd, .ref cu, .ref im, .ref ig, .ref sl, .ref se, .ref sm, .ref fc])), (sl, .inl (cS, 4, .inr (.inr (.inr (.inr (sf4 s0 s1 s2 s3)))))), (s0, .inr (2, [.int wd0, .int rz0, .ref n0])), (s1, .inr (2, [.int wd1, .int rz1, .ref n1])), (s2, .inr (2, [.int wd2, .int rz2, .ref n2])), (s3, .inr (2, [.int a2, .int a3, .ref n3])), (n0, .inl (cJ0, 60, .inr (.inl g0))), (n1, .inl (cJ1, 60, .inr (.inl g1))), (n2, .inl (cJ2, 60, .inr (.inl g2))), (n3, .inl (cJ3, 60, .inr (.inl o2_42)))]) [0, 1, 2, 3, 4, 8, 5, 6, 7, 9] rfl
            have hD := hD.sub (ws' := [(h0, .inr (7, [.ref tp, .ref sc, .ref rd, .ref cu, .ref im, .ref ig, .ref sl, .ref se, .ref sm, .ref fc])), (sl, .inl (cS, 4, .inr (.inr (.inr (.inr (sf4 s0 s1 s2 s3)))))), (s0, .inr (2, [.int wd0, .int rz0, .ref n0])), (s1, .inr (2, [.int wd1, .int rz1, .ref n1])), (s2, .inr (2, [.int wd2, .int rz2, .ref n2])), (s3, .inr (2, [.int a2, .int a3, .ref n3])), (n0, .inl (cJ0, 60, .inr (.inl g0))), (n1, .inl (cJ1, 60, .inr (.inl g1))), (n2, .inl (cJ2, 60, .inr (.inl g2))), (n3, .inl (cJ3, 60, .inr (.inl o2_42)))]) [0, 1, 2, 3, 4, 8, 5, 6, 7, 9] (by decide) rfl
            have hP : va_P (dC, dI) vwCl [(h0, .inr (7, [.ref tp, .ref sc, .ref rd, .ref cu, .ref im, .ref ig, .ref sl, .ref se, .ref sm, .ref fc])), (sl, .inl (cS, 4, .inr (.inr (.inr (.inr (sf4 s0 s1 s2 s3)))))), (s0, .inr (2, [.int wd0, .int rz0, .ref n0])), (s1, .inr (2, [.int wd1, .int rz1, .ref n1])), (s2, .inr (2, [.int wd2, .int rz2, .ref n2])), (s3, .inr (2, [.int a2, .int a3, .ref n3])), (n0, .inl (cJ0, 60, .inr (.inl g0))), (n1, .inl (cJ1, 60, .inr (.inl g1))), (n2, .inl (cJ2, 60, .inr (.inl g2))), (n3, .inl (cJ3, 60, .inr (.inl o2_42)))] H := hP
            have hD : va_D A [(h0, .inr (7, [.ref tp, .ref sc, .ref rd, .ref cu, .ref im, .ref ig, .ref sl, .ref se, .ref sm, .ref fc])), (sl, .inl (cS, 4, .inr (.inr (.inr (.inr (sf4 s0 s1 s2 s3)))))), (s0, .inr (2, [.int wd0, .int rz0, .ref n0])), (s1, .inr (2, [.int wd1, .int rz1, .ref n1])), (s2, .inr (2, [.int wd2, .int rz2, .ref n2])), (s3, .inr (2, [.int a2, .int a3, .ref n3])), (n0, .inl (cJ0, 60, .inr (.inl g0))), (n1, .inl (cJ1, 60, .inr (.inl g1))), (n2, .inl (cJ2, 60, .inr (.inl g2))), (n3, .inl (cJ3, 60, .inr (.inl o2_42)))] := hD
            have hK : va_K (dC, dI) vwCl [(cS, .object RX3), (cJ0, .long), (cJ1, .long), (cJ2, .long), (cJ3, .long)] s := hK
            refine lv_iconst (v := 0) hx hb dX9_row_44 (by decide) ?_
            have hP9 := hP.sub (ws' := [(h0, .inr (7, [.ref tp, .ref sc, .ref rd, .ref cu, .ref im, .ref ig, .ref sl, .ref se, .ref sm, .ref fc])), (sl, .inl (cS, 4, .inr (.inr (.inr (.inr (sf4 s0 s1 s2 s3)))))), (s0, .inr (2, [.int wd0, .int rz0, .ref n0])), (s1, .inr (2, [.int wd1, .int rz1, .ref n1])), (s2, .inr (2, [.int wd2, .int rz2, .ref n2])), (s3, .inr (2, [.int a2, .int a3, .ref n3])), (n0, .inl (cJ0, 60, .inr (.inl g0))), (n1, .inl (cJ1, 60, .inr (.inl g1))), (n2, .inl (cJ2, 60, .inr (.inl g2))), (n3, .inl (cJ3, 60, .inr (.inl o2_42)))]) [0, 1, 2, 3, 4, 5, 6, 7, 8, 9] rfl
            have hD9 := hD.sub (ws' := [(h0, .inr (7, [.ref tp, .ref sc, .ref rd, .ref cu, .ref im, .ref ig, .ref sl, .ref se, .ref sm, .ref fc])), (sl, .inl (cS, 4, .inr (.inr (.inr (.inr (sf4 s0 s1 s2 s3)))))), (s0, .inr (2, [.int wd0, .int rz0, .ref n0])), (s1, .inr (2, [.int wd1, .int rz1, .ref n1])), (s2, .inr (2, [.int wd2, .int rz2, .ref n2])), (s3, .inr (2, [.int a2, .int a3, .ref n3])), (n0, .inl (cJ0, 60, .inr (.inl g0))), (n1, .inl (cJ1, 60, .inr (.inl g1))), (n2, .inl (cJ2, 60, .inr (.inl g2))), (n3, .inl (cJ3, 60, .inr (.inl o2_42)))]) [0, 1, 2, 3, 4, 5, 6, 7, 8, 9] (by decide) rfl
            have hK9 := hK.sub (tys' := [(cS, .object RX3), (cJ0, .long), (cJ1, .long), (cJ2, .long), (cJ3, .long)]) [0, 1, 2, 3, 4] rfl
            exact W.iret (v := 0) hx hb hr (fun t ht hW => ⟨⟨0, (), rfl, (rg_w (by decide : (0 : Int) ≤ (0 : Int32).toInt ∧ (0 : Int32).toInt ≤ 0) (by decide) (by decide)), wd0, rz0, wd1, rz1, wd2, rz2, a2, a3, g0, g1, g2, o2_42, b_wd0, b_rz0, b_wd1, b_rz1, b_wd2, b_rz2, (rg_w b_a2 (by decide) (by decide)), b_a3, by rw [ht]; exact hP9, va_K.moved hW.alike hK9, hD9⟩, hS.F ht⟩) hS.2.2 dX9_row_45
        ·
          have n_c_29 : (a3.toInt : Int) < 0 := c_nge rfl (by decide) c_29
          have b_a3 : (-2147483648 : Int) ≤ a3.toInt ∧ a3.toInt ≤ -1 := r_lt1 b_a3 (by decide : (0 : Int) ≤ (0 : Int32).toInt ∧ (0 : Int32).toInt ≤ 0) n_c_29 (by decide)
          refine lv_bipush (v := (-3)) hx hb dX9_row_30 (by decide) ?_
          have hP9 := hP.sub (ws' := [(h0, .inr (7, [.ref tp, .ref sc, .ref rd, .ref cu, .ref im, .ref ig, .ref sl, .ref se, .ref sm, .ref fc])), (sl, .inl (cS, 4, .inr (.inr (.inr (.inr (sf4 s0 s1 s2 s3)))))), (s0, .inr (2, [.int wd0, .int rz0, .ref n0])), (s1, .inr (2, [.int wd1, .int rz1, .ref n1])), (s2, .inr (2, [.int wd2, .int rz2, .ref n2])), (s3, .inr (2, [.int wd3, .int rz3, .ref n3])), (n0, .inl (cJ0, 60, .inr (.inl g0))), (n1, .inl (cJ1, 60, .inr (.inl g1))), (n2, .inl (cJ2, 60, .inr (.inl g2))), (n3, .inl (cJ3, 60, .inr (.inl g3)))]) [0, 1, 2, 3, 4, 5, 6, 7, 8, 9] rfl
          have hD9 := hD.sub (ws' := [(h0, .inr (7, [.ref tp, .ref sc, .ref rd, .ref cu, .ref im, .ref ig, .ref sl, .ref se, .ref sm, .ref fc])), (sl, .inl (cS, 4, .inr (.inr (.inr (.inr (sf4 s0 s1 s2 s3)))))), (s0, .inr (2, [.int wd0, .int rz0, .ref n0])), (s1, .inr (2, [.int wd1, .int rz1, .ref n1])), (s2, .inr (2, [.int wd2, .int rz2, .ref n2])), (s3, .inr (2, [.int wd3, .int rz3, .ref n3])), (n0, .inl (cJ0, 60, .inr (.inl g0))), (n1, .inl (cJ1, 60, .inr (.inl g1))), (n2, .inl (cJ2, 60, .inr (.inl g2))), (n3, .inl (cJ3, 60, .inr (.inl g3)))]) [0, 1, 2, 3, 4, 5, 6, 7, 8, 9] (by decide) rfl
          have hK9 := hK.sub (tys' := [(cS, .object RX3), (cJ0, .long), (cJ1, .long), (cJ2, .long), (cJ3, .long)]) [0, 1, 2, 3, 4] rfl
          exact W.iret (v := (-3)) hx hb hr (fun t ht hW => ⟨⟨(-3), (), rfl, (rg_w (by decide : (-3 : Int) ≤ ((-3) : Int32).toInt ∧ ((-3) : Int32).toInt ≤ -3) (by decide) (by decide)), wd0, rz0, wd1, rz1, wd2, rz2, wd3, rz3, g0, g1, g2, g3, b_wd0, b_rz0, b_wd1, b_rz1, b_wd2, b_rz2, b_wd3, b_rz3, by rw [ht]; exact hP9, va_K.moved hW.alike hK9, hD9⟩, hS.F ht⟩) hS.2.2 dX9_row_32
      ·
        have n_c_28 : (60 : Int) < a3.toInt := c_nle rfl (by decide) c_28
        have b_a3 : (61 : Int) ≤ a3.toInt ∧ a3.toInt ≤ 2147483647 := r_lt2 (by decide : (60 : Int) ≤ (60 : Int32).toInt ∧ (60 : Int32).toInt ≤ 60) (ti_rng a3) n_c_28 (by decide)
        refine lv_bipush (v := (-2)) hx hb dX9_row_23 (by decide) ?_
        have hP9 := hP.sub (ws' := [(h0, .inr (7, [.ref tp, .ref sc, .ref rd, .ref cu, .ref im, .ref ig, .ref sl, .ref se, .ref sm, .ref fc])), (sl, .inl (cS, 4, .inr (.inr (.inr (.inr (sf4 s0 s1 s2 s3)))))), (s0, .inr (2, [.int wd0, .int rz0, .ref n0])), (s1, .inr (2, [.int wd1, .int rz1, .ref n1])), (s2, .inr (2, [.int wd2, .int rz2, .ref n2])), (s3, .inr (2, [.int wd3, .int rz3, .ref n3])), (n0, .inl (cJ0, 60, .inr (.inl g0))), (n1, .inl (cJ1, 60, .inr (.inl g1))), (n2, .inl (cJ2, 60, .inr (.inl g2))), (n3, .inl (cJ3, 60, .inr (.inl g3)))]) [0, 1, 2, 3, 4, 5, 6, 7, 8, 9] rfl
        have hD9 := hD.sub (ws' := [(h0, .inr (7, [.ref tp, .ref sc, .ref rd, .ref cu, .ref im, .ref ig, .ref sl, .ref se, .ref sm, .ref fc])), (sl, .inl (cS, 4, .inr (.inr (.inr (.inr (sf4 s0 s1 s2 s3)))))), (s0, .inr (2, [.int wd0, .int rz0, .ref n0])), (s1, .inr (2, [.int wd1, .int rz1, .ref n1])), (s2, .inr (2, [.int wd2, .int rz2, .ref n2])), (s3, .inr (2, [.int wd3, .int rz3, .ref n3])), (n0, .inl (cJ0, 60, .inr (.inl g0))), (n1, .inl (cJ1, 60, .inr (.inl g1))), (n2, .inl (cJ2, 60, .inr (.inl g2))), (n3, .inl (cJ3, 60, .inr (.inl g3)))]) [0, 1, 2, 3, 4, 5, 6, 7, 8, 9] (by decide) rfl
        have hK9 := hK.sub (tys' := [(cS, .object RX3), (cJ0, .long), (cJ1, .long), (cJ2, .long), (cJ3, .long)]) [0, 1, 2, 3, 4] rfl
        exact W.iret (v := (-2)) hx hb hr (fun t ht hW => ⟨⟨(-2), (), rfl, (rg_w (by decide : (-2 : Int) ≤ ((-2) : Int32).toInt ∧ ((-2) : Int32).toInt ≤ -2) (by decide) (by decide)), wd0, rz0, wd1, rz1, wd2, rz2, wd3, rz3, g0, g1, g2, g3, b_wd0, b_rz0, b_wd1, b_rz1, b_wd2, b_rz2, b_wd3, b_rz3, by rw [ht]; exact hP9, va_K.moved hW.alike hK9, hD9⟩, hS.F ht⟩) hS.2.2 dX9_row_25
theorem dX9_write_0 : decode cX9_write 0 = .ok (.aload_n 0, 1) := by decide +kernel
theorem dX9_write_1 : decode cX9_write 1 = .ok (.iload_n 1, 1) := by decide +kernel
theorem dX9_write_2 : decode cX9_write 2 = .ok (.invokevirtual 206, 3) := by decide +kernel
theorem dX9_write_5 : decode cX9_write 5 = .ok (.ifCond .ne 6, 3) := by decide +kernel
theorem dX9_write_8 : decode cX9_write 8 = .ok (.bipush (-2), 2) := by decide +kernel
theorem dX9_write_10 : decode cX9_write 10 = .ok (.ireturn, 1) := by decide +kernel
theorem dX9_write_11 : decode cX9_write 11 = .ok (.aload_n 0, 1) := by decide +kernel
theorem dX9_write_12 : decode cX9_write 12 = .ok (.getfield 50, 3) := by decide +kernel
theorem dX9_write_15 : decode cX9_write 15 = .ok (.iload_n 1, 1) := by decide +kernel
theorem dX9_write_16 : decode cX9_write 16 = .ok (.aaload, 1) := by decide +kernel
theorem dX9_write_17 : decode cX9_write 17 = .ok (.astore 5, 2) := by decide +kernel
theorem dX9_write_19 : decode cX9_write 19 = .ok (.aload 5, 2) := by decide +kernel
theorem dX9_write_21 : decode cX9_write 21 = .ok (.invokevirtual 270, 3) := by decide +kernel
theorem dX9_write_24 : decode cX9_write 24 = .ok (.ifCond .ne 6, 3) := by decide +kernel
theorem dX9_write_27 : decode cX9_write 27 = .ok (.bipush (-6), 2) := by decide +kernel
theorem dX9_write_29 : decode cX9_write 29 = .ok (.ireturn, 1) := by decide +kernel
theorem dX9_write_30 : decode cX9_write 30 = .ok (.aload 5, 2) := by decide +kernel
theorem dX9_write_32 : decode cX9_write 32 = .ok (.iload_n 2, 1) := by decide +kernel
theorem dX9_write_33 : decode cX9_write 33 = .ok (.iconst 1, 1) := by decide +kernel
theorem dX9_write_34 : decode cX9_write 34 = .ok (.invokevirtual 343, 3) := by decide +kernel
theorem dX9_write_37 : decode cX9_write 37 = .ok (.ifCond .ne 6, 3) := by decide +kernel
theorem dX9_write_40 : decode cX9_write 40 = .ok (.bipush (-7), 2) := by decide +kernel
theorem dX9_write_42 : decode cX9_write 42 = .ok (.ireturn, 1) := by decide +kernel
theorem dX9_write_43 : decode cX9_write 43 = .ok (.aload 5, 2) := by decide +kernel
theorem dX9_write_45 : decode cX9_write 45 = .ok (.iload_n 2, 1) := by decide +kernel
theorem dX9_write_46 : decode cX9_write 46 = .ok (.lload_n 3, 1) := by decide +kernel
theorem dX9_write_47 : decode cX9_write 47 = .ok (.invokevirtual 346, 3) := by decide +kernel
theorem dX9_write_50 : decode cX9_write 50 = .ok (.iconst 0, 1) := by decide +kernel
theorem dX9_write_51 : decode cX9_write 51 = .ok (.ireturn, 1) := by decide +kernel
theorem hd_yX9_write : yX9_write.cls = RX9 ∧ yX9_write.cls ≠ "java/lang/invoke/MethodHandle" ∧ yX9_write.cls ≠ "java/lang/invoke/VarHandle" ∧ (parseMethodDescriptor yX9_write.desc).map (fun d => d.parameters.length) = some 3 := by decide +kernel
def uX9_write : List Cond := List.cons (.code yX9_write cX9_write 6 (some .int)) (HAppend.hAppend ([.methodLink RX9 206 yX9_hasSlot, .instanceMethod yX9_hasSlot, .selects RX9 yX9_hasSlot yX9_hasSlot, .initialized RX9, .fieldLink RX9 50 "LuckyTicket" "slots" "[LLuckyTicket$Row;", .methodLink RX9 270 yX3_stands, .instanceMethod yX3_stands, .selects RX3 yX3_stands yX3_stands, .initialized RX3, .methodLink RX9 343 yX3_hasStretch, .instanceMethod yX3_hasStretch, .selects RX3 yX3_hasStretch yX3_hasStretch, .methodLink RX9 346 yX3_put, .instanceMethod yX3_put, .selects RX3 yX3_put yX3_put] : List Cond) (HAppend.hAppend uX9_hasSlot (HAppend.hAppend uX3_stands (HAppend.hAppend uX3_hasStretch (HAppend.hAppend uX3_put wsX90)))))
theorem iX9_write_X9 : ∀ w ∈ wsX90, w ∈ uX9_write := fun _ h => (List.mem_cons_of_mem _ (List.mem_append_right _ (List.mem_append_right _ (List.mem_append_right _ (List.mem_append_right _ (List.mem_append_right _ h))))))
theorem guX9_write : GU uX9_write := gu_cons (gu_app (by decide +kernel) (gu_ap guX9_hasSlot (gu_ap guX3_stands (gu_ap guX3_hasStretch (gu_ap guX3_put gws_X9)))))
theorem gX9_write__X9_hasSlot_V206 : GoodIn uX9_write (wsV RX9 206 RX9 yX9_hasSlot uX9_hasSlot) := gin_V (List.mem_of_getElem? (i := 1) rfl) (List.mem_of_getElem? (i := 2) rfl) (List.mem_of_getElem? (i := 3) rfl) (List.mem_of_getElem? (i := 4) rfl) (fun _ h => (List.mem_cons_of_mem _ (List.mem_append_right _ (List.mem_append_left _ h)))) guX9_hasSlot
theorem gX9_write__X3_stands_V270 : GoodIn uX9_write (wsV RX9 270 RX3 yX3_stands uX3_stands) := gin_V (List.mem_of_getElem? (i := 6) rfl) (List.mem_of_getElem? (i := 7) rfl) (List.mem_of_getElem? (i := 8) rfl) (List.mem_of_getElem? (i := 9) rfl) (fun _ h => (List.mem_cons_of_mem _ (List.mem_append_right _ (List.mem_append_right _ (List.mem_append_left _ h))))) guX3_stands
theorem gX9_write__X3_hasStretch_V343 : GoodIn uX9_write (wsV RX9 343 RX3 yX3_hasStretch uX3_hasStretch) := gin_V (List.mem_of_getElem? (i := 10) rfl) (List.mem_of_getElem? (i := 11) rfl) (List.mem_of_getElem? (i := 12) rfl) (List.mem_of_getElem? (i := 9) rfl) (fun _ h => (List.mem_cons_of_mem _ (List.mem_append_right _ (List.mem_append_right _ (List.mem_append_right _ (List.mem_append_left _ h)))))) guX3_hasStretch
theorem gX9_write__X3_put_V346 : GoodIn uX9_write (wsV RX9 346 RX3 yX3_put uX3_put) := gin_V (List.mem_of_getElem? (i := 13) rfl) (List.mem_of_getElem? (i := 14) rfl) (List.mem_of_getElem? (i := 15) rfl) (List.mem_of_getElem? (i := 9) rfl) (fun _ h => (List.mem_cons_of_mem _ (List.mem_append_right _ (List.mem_append_right _ (List.mem_append_right _ (List.mem_append_right _ (List.mem_append_left _ h))))))) guX3_put
set_option maxHeartbeats 4000000 in
set_option maxRecDepth 100000 in
theorem kX9_write (l : Launch) (dC : Nat → ClassId) (dI : Nat → Nat → Nat) (h0 : Nat) (tp : Nat) (sc : Nat) (rd : Nat) (cu : Nat) (im : Nat) (ig : Nat) (sl : Nat) (se : Nat) (sm : Nat) (fc : Nat) (cS : ClassId) (s0 : Nat) (s1 : Nat) (s2 : Nat) (s3 : Nat) (n0 : Nat) (n1 : Nat) (n2 : Nat) (n3 : Nat) (wd0 : Int32) (wd1 : Int32) (wd2 : Int32) (wd3 : Int32) (rz0 : Int32) (rz1 : Int32) (rz2 : Int32) (rz3 : Int32) (cJ0 : ClassId) (cJ1 : ClassId) (cJ2 : ClassId) (cJ3 : ClassId) (g0 : Nat → Int64) (g1 : Nat → Int64) (g2 : Nat → Int64) (g3 : Nat → Int64) (a1 : Int32) (a2 : Int32) (a3 : Int64) (sz : Nat) (b_wd0 : (-1 : Int) ≤ wd0.toInt ∧ wd0.toInt ≤ 3) (b_wd1 : (-1 : Int) ≤ wd1.toInt ∧ wd1.toInt ≤ 3) (b_wd2 : (-1 : Int) ≤ wd2.toInt ∧ wd2.toInt ≤ 3) (b_wd3 : (-1 : Int) ≤ wd3.toInt ∧ wd3.toInt ≤ 3) (b_rz0 : (0 : Int) ≤ rz0.toInt ∧ rz0.toInt ≤ 60) (b_rz1 : (0 : Int) ≤ rz1.toInt ∧ rz1.toInt ≤ 60) (b_rz2 : (0 : Int) ≤ rz2.toInt ∧ rz2.toInt ≤ 60) (b_rz3 : (0 : Int) ≤ rz3.toInt ∧ rz3.toInt ≤ 60) : Met l yX9_write uX9_write ({ frames := 2, cells := 0, slots := 0, locals := 45 }) (va_Pc [.ref h0, .int a1, .int a2, .long a3] (hw (dC, dI) vwCl [(h0, .inr (7, [.ref tp, .ref sc, .ref rd, .ref cu, .ref im, .ref ig, .ref sl, .ref se, .ref sm, .ref fc])), (sl, .inl (cS, 4, .inr (.inr (.inr (.inr (sf4 s0 s1 s2 s3)))))), (s0, .inr (2, [.int wd0, .int rz0, .ref n0])), (s1, .inr (2, [.int wd1, .int rz1, .ref n1])), (s2, .inr (2, [.int wd2, .int rz2, .ref n2])), (s3, .inr (2, [.int wd3, .int rz3, .ref n3])), (n0, .inl (cJ0, 60, .inr (.inl g0))), (n1, .inl (cJ1, 60, .inr (.inl g1))), (n2, .inl (cJ2, 60, .inr (.inl g2))), (n3, .inl (cJ3, 60, .inr (.inl g3)))] [(cS, .object RX3), (cJ0, .long), (cJ1, .long), (cJ2, .long), (cJ3, .long)] sz)) (va_Qi (fun (r : Int32) (_ : Unit) => ((-7 : Int) ≤ r.toInt ∧ r.toInt ≤ 0)) (fun (_ : Unit) t => ∃ (o0_ : Nat → Int64) (o1_ : Nat → Int64) (o2_ : Nat → Int64) (o3_ : Nat → Int64), va_P (dC, dI) vwCl [(h0, .inr (7, [.ref tp, .ref sc, .ref rd, .ref cu, .ref im, .ref ig, .ref sl, .ref se, .ref sm, .ref fc])), (sl, .inl (cS, 4, .inr (.inr (.inr (.inr (sf4 s0 s1 s2 s3)))))), (s0, .inr (2, [.int wd0, .int rz0, .ref n0])), (s1, .inr (2, [.int wd1, .int rz1, .ref n1])), (s2, .inr (2, [.int wd2, .int rz2, .ref n2])), (s3, .inr (2, [.int wd3, .int rz3, .ref n3])), (n0, .inl (cJ0, 60, .inr (.inl o0_))), (n1, .inl (cJ1, 60, .inr (.inl o1_))), (n2, .inl (cJ2, 60, .inr (.inl o2_))), (n3, .inl (cJ3, 60, .inr (.inl o3_)))] t.heap ∧ va_K (dC, dI) vwCl [(cS, .object RX3), (cJ0, .long), (cJ1, .long), (cJ2, .long), (cJ3, .long)] t ∧ va_D (va_A [(h0, .inr (7, [.ref tp, .ref sc, .ref rd, .ref cu, .ref im, .ref ig, .ref sl, .ref se, .ref sm, .ref fc])), (sl, .inl (cS, 4, .inr (.inr (.inr (.inr (sf4 s0 s1 s2 s3)))))), (s0, .inr (2, [.int wd0, .int rz0, .ref n0])), (s1, .inr (2, [.int wd1, .int rz1, .ref n1])), (s2, .inr (2, [.int wd2, .int rz2, .ref n2])), (s3, .inr (2, [.int wd3, .int rz3, .ref n3])), (n0, .inl (cJ0, 60, .inr (.inl g0))), (n1, .inl (cJ1, 60, .inr (.inl g1))), (n2, .inl (cJ2, 60, .inr (.inl g2))), (n3, .inl (cJ3, 60, .inr (.inl g3)))] sz) [(h0, .inr (7, [.ref tp, .ref sc, .ref rd, .ref cu, .ref im, .ref ig, .ref sl, .ref se, .ref sm, .ref fc])), (sl, .inl (cS, 4, .inr (.inr (.inr (.inr (sf4 s0 s1 s2 s3)))))), (s0, .inr (2, [.int wd0, .int rz0, .ref n0])), (s1, .inr (2, [.int wd1, .int rz1, .ref n1])), (s2, .inr (2, [.int wd2, .int rz2, .ref n2])), (s3, .inr (2, [.int wd3, .int rz3, .ref n3])), (n0, .inl (cJ0, 60, .inr (.inl o0_))), (n1, .inl (cJ1, 60, .inr (.inl o1_))), (n2, .inl (cJ2, 60, .inr (.inl o2_))), (n3, .inl (cJ3, 60, .inr (.inl o3_)))]) (va_A [(h0, .inr (7, [.ref tp, .ref sc, .ref rd, .ref cu, .ref im, .ref ig, .ref sl, .ref se, .ref sm, .ref fc])), (sl, .inl (cS, 4, .inr (.inr (.inr (.inr (sf4 s0 s1 s2 s3)))))), (s0, .inr (2, [.int wd0, .int rz0, .ref n0])), (s1, .inr (2, [.int wd1, .int rz1, .ref n1])), (s2, .inr (2, [.int wd2, .int rz2, .ref n2])), (s3, .inr (2, [.int wd3, .int rz3, .ref n3])), (n0, .inl (cJ0, 60, .inr (.inl g0))), (n1, .inl (cJ1, 60, .inr (.inl g1))), (n2, .inl (cJ2, 60, .inr (.inl g2))), (n3, .inl (cJ3, 60, .inr (.inl g3)))] sz)) 0 0 (va_A [(h0, .inr (7, [.ref tp, .ref sc, .ref rd, .ref cu, .ref im, .ref ig, .ref sl, .ref se, .ref sm, .ref fc])), (sl, .inl (cS, 4, .inr (.inr (.inr (.inr (sf4 s0 s1 s2 s3)))))), (s0, .inr (2, [.int wd0, .int rz0, .ref n0])), (s1, .inr (2, [.int wd1, .int rz1, .ref n1])), (s2, .inr (2, [.int wd2, .int rz2, .ref n2])), (s3, .inr (2, [.int wd3, .int rz3, .ref n3])), (n0, .inl (cJ0, 60, .inr (.inl g0))), (n1, .inl (cJ1, 60, .inr (.inl g1))), (n2, .inl (cJ2, 60, .inr (.inl g2))), (n3, .inl (cJ3, 60, .inr (.inl g3)))] sz) := by
  refine Met.ofW (cc := cX9_write) (maxL := 6) (ret := (some .int)) pn_X9 rfl ?_
  intro p e s m args below meth c s₁ B hml hv
  obtain ⟨rfl, hsz, hP, hK, hD0, hN⟩ := hv
  have hx := B.exec
  have hb := B.bytes
  have hr := B.returns
  have hts := atoms_spec (ws := uX9_write) B.pre
  have hown : s.vm.findClass RX9 = some m.cls := hown_of B.named rfl
  have hlocks := B.notSynchronized
  subst hsz
  have hD := hD0.self (sz := s.heap.size)
  generalize hAe : va_A [(h0, .inr (7, [.ref tp, .ref sc, .ref rd, .ref cu, .ref im, .ref ig, .ref sl, .ref se, .ref sm, .ref fc])), (sl, .inl (cS, 4, .inr (.inr (.inr (.inr (sf4 s0 s1 s2 s3)))))), (s0, .inr (2, [.int wd0, .int rz0, .ref n0])), (s1, .inr (2, [.int wd1, .int rz1, .ref n1])), (s2, .inr (2, [.int wd2, .int rz2, .ref n2])), (s3, .inr (2, [.int wd3, .int rz3, .ref n3])), (n0, .inl (cJ0, 60, .inr (.inl g0))), (n1, .inl (cJ1, 60, .inr (.inl g1))), (n2, .inl (cJ2, 60, .inr (.inl g2))), (n3, .inl (cJ3, 60, .inr (.inl g3)))] s.heap.size = A at hD ⊢
  have hA : ∀ q : Nat, s.heap.size ≤ q → A q := fun q h => by rw [← hAe]; exact Or.inr h
  have hS : va_S A s.heap s.heap [] := va_S.rf
  have hP : va_P (dC, dI) vwCl [(h0, .inr (7, [.ref tp, .ref sc, .ref rd, .ref cu, .ref im, .ref ig, .ref sl, .ref se, .ref sm, .ref fc])), (sl, .inl (cS, 4, .inr (.inr (.inr (.inr (sf4 s0 s1 s2 s3)))))), (s0, .inr (2, [.int wd0, .int rz0, .ref n0])), (s1, .inr (2, [.int wd1, .int rz1, .ref n1])), (s2, .inr (2, [.int wd2, .int rz2, .ref n2])), (s3, .inr (2, [.int wd3, .int rz3, .ref n3])), (n0, .inl (cJ0, 60, .inr (.inl g0))), (n1, .inl (cJ1, 60, .inr (.inl g1))), (n2, .inl (cJ2, 60, .inr (.inl g2))), (n3, .inl (cJ3, 60, .inr (.inl g3)))] s.heap := hP
  have hl := lv_entry ([.ref h0, .int a1, .int a2, .long a3]) (n := 6) (Nat.le_of_ble_eq_true rfl)
  rw [lg_entry_eq]
  generalize (lg_sl ([.ref h0, .int a1, .int a2, .long a3]) ++ List.replicate (6 - (lg_sl ([.ref h0, .int a1, .int a2, .long a3])).length) Slot.unset).toArray = ls at hl ⊢
  have hl : lv_has ls 6 [(0, .ref h0), (1, .int a1), (2, .int a2), (3, .long a3)] := hl
  refine lv_aload_n hx hb dX9_write_0 rfl (lv_at hl 0 rfl) ?_
  refine lv_iload_n hx hb dX9_write_1 rfl (lv_at hl 1 rfl) ?_
  refine vp_callSi (W.runV (As := [.int a1]) (rest := []) ⟨hx, hb, hml, hown, hts⟩ (kX9_hasSlot l dC dI h0 tp sc rd cu im ig sl se sm fc cS s0 s1 s2 s3 a1 ) (cwV 1 hts gX9_write__X9_hasSlot_V206 rfl rfl rfl hd_yX9_hasSlot ⟨lel 2 2 rfl, lel 43 45 rfl⟩) ⟨pw_fb, rcv_X9 hK hP (q0 := 0) rfl, (pw_use hP hK hN [0, 1] rfl [0] rfl)⟩ rfl rfl hl.1 rfl (lv_room (Nat.le_of_ble_eq_true rfl)) dX9_write_2 ⟨lel 0 0 rfl, lel 0 0 rfl⟩) (fun r_41 h_r_41 => ?_)
  obtain ⟨b_r_41, nz_r_41⟩ := h_r_41
  have b_r_41 : (0 : Int) ≤ r_41.toInt ∧ r_41.toInt ≤ 1 := b_r_41
  refine lv_if_ne (tgt := 11) hx hb dX9_write_5 (by decide) (fun c_42 => ?_) (fun c_42 => ?_)
  ·
    have n_c_42 : (r_41.toInt : Int) ≠ 0 := c_ne rfl (by decide) c_42
    have b_r_41 : (1 : Int) ≤ r_41.toInt ∧ r_41.toInt ≤ 1 := r_ne1 b_r_41 (by decide : (0 : Int) ≤ (0 : Int32).toInt ∧ (0 : Int32).toInt ≤ 0) n_c_42 (by decide)
    obtain ⟨b_a1, g_43⟩ := nz_r_41 c_42
    refine lv_aload_n hx hb dX9_write_11 rfl (lv_at hl 0 rfl) ?_
    refine va_get (D := (dC, dI)) (ci := 7) (v := .ref sl) (C := RX9) (T := TX9) (N := 10) hx hb hts iX9_write_X9 hown hK hP 0 rfl rfl 6 (by decide) (hts (.fieldLink RX9 50 "LuckyTicket" "slots" "[LLuckyTicket$Row;") (List.mem_of_getElem? (i := 5) rfl)) (fun _ h9 => h9) rfl dX9_write_12 ?_
    refine lv_iload_n hx hb dX9_write_15 rfl (lv_at hl 1 rfl) ?_
    rcases (show a1.toInt = 0 ∨ a1.toInt = 1 ∨ a1.toInt = 2 ∨ a1.toInt = 3 by omega) with h_44 | h_44 | h_44 | h_44
    ·
      obtain rfl : a1 = 0 := Int32.toInt_inj.mp (h_44.trans (by decide))
      refine va_aldq hx hb hK hP 1 0 rfl rfl (vp_in_b (by decide : (0 : Int) ≤ (0 : Int32).toInt ∧ (0 : Int32).toInt ≤ 0) (by decide) (by decide)) dX9_write_16 ?_
      refine W.eq (g2 := F0 m 17 ls (.ref s0 :: [])) (congrArg (fun v => F0 m 17 ls (va_rf v :: [])) (sf4_0 s0 s1 s2 s3)) ?_
      refine lv_astore (lv' := [(5, .ref s0), (0, .ref h0), (1, .int 0), (2, .int a2), (3, .long a3)]) hx hb dX9_write_17 hl (by decide) rfl (fun ls hl => ?_)
      refine lv_aload hx hb dX9_write_19 (lv_at hl 0 rfl) ?_
      refine vp_callSi (W.runV (As := []) (rest := []) ⟨hx, hb, hml, hown, hts⟩ (kX3_stands l dC dI s0 wd0 rz0 n0 b_wd0 b_rz0) (cwV 0 hts gX9_write__X3_stands_V270 rfl rfl rfl hd_yX3_stands ⟨lel 1 2 rfl, lel 20 45 rfl⟩) ⟨pw_fb, rcv_X3 hK hP (q0 := 2) rfl, (pw_use hP hK hN [2] rfl [] rfl)⟩ rfl rfl hl.1 rfl (lv_room (Nat.le_of_ble_eq_true rfl)) dX9_write_21 ⟨lel 0 0 rfl, lel 0 0 rfl⟩) (fun r_45 h_r_45 => ?_)
      obtain ⟨b_r_45, nz_r_45⟩ := h_r_45
      have b_r_45 : (0 : Int) ≤ r_45.toInt ∧ r_45.toInt ≤ 1 := b_r_45
      refine lv_if_ne (tgt := 30) hx hb dX9_write_24 (by decide) (fun c_46 => ?_) (fun c_46 => ?_)
      ·
        have n_c_46 : (r_45.toInt : Int) ≠ 0 := c_ne rfl (by decide) c_46
        have b_r_45 : (1 : Int) ≤ r_45.toInt ∧ r_45.toInt ≤ 1 := r_ne1 b_r_45 (by decide : (0 : Int) ≤ (0 : Int32).toInt ∧ (0 : Int32).toInt ≤ 0) n_c_46 (by decide)
        obtain ⟨b_wd0, g_47⟩ := nz_r_45 c_46
        refine lv_aload hx hb dX9_write_30 (lv_at hl 0 rfl) ?_
        refine lv_iload_n hx hb dX9_write_32 rfl (lv_at hl 3 rfl) ?_
        refine lv_iconst (v := 1) hx hb dX9_write_33 (by decide) ?_
        refine vp_callSi (W.runV (As := [.int a2, .int 1]) (rest := []) ⟨hx, hb, hml, hown, hts⟩ (kX3_hasStretch l dC dI s0 wd0 rz0 n0 a2 1 (rg_w b_wd0 (by decide) (by decide)) b_rz0) (cwV 2 hts gX9_write__X3_hasStretch_V343 rfl rfl rfl hd_yX3_hasStretch ⟨lel 1 2 rfl, lel 22 45 rfl⟩) ⟨pw_fb, rcv_X3 hK hP (q0 := 2) rfl, (pw_use hP hK hN [2] rfl [] rfl)⟩ rfl rfl hl.1 rfl (lv_room (Nat.le_of_ble_eq_true rfl)) dX9_write_34 ⟨lel 0 0 rfl, lel 0 0 rfl⟩) (fun r_48 h_r_48 => ?_)
        obtain ⟨b_r_48, nz_r_48⟩ := h_r_48
        have b_r_48 : (0 : Int) ≤ r_48.toInt ∧ r_48.toInt ≤ 1 := b_r_48
        refine lv_if_ne (tgt := 43) hx hb dX9_write_37 (by decide) (fun c_49 => ?_) (fun c_49 => ?_)
        ·
          have n_c_49 : (r_48.toInt : Int) ≠ 0 := c_ne rfl (by decide) c_49
          have b_r_48 : (1 : Int) ≤ r_48.toInt ∧ r_48.toInt ≤ 1 := r_ne1 b_r_48 (by decide : (0 : Int) ≤ (0 : Int32).toInt ∧ (0 : Int32).toInt ≤ 0) n_c_49 (by decide)
          obtain ⟨b_a2, _, g_50⟩ := nz_r_48 c_49
          have lt0_g_50 := (by decide : (1 : Int32).toInt = 1)
          refine lv_aload hx hb dX9_write_43 (lv_at hl 0 rfl) ?_
          refine lv_iload_n hx hb dX9_write_45 rfl (lv_at hl 3 rfl) ?_
          refine lv_lload_n hx hb dX9_write_46 rfl (lv_at hl 4 rfl) ?_
          have hFc := va_free (wc := [(s0, .inr (2, [.int wd0, .int rz0, .ref n0])), (n0, .inl (cJ0, 60, .inr (.inl g0)))]) hD hS hA [2, 6] rfl
          refine va_callv (va_runV (As := [.int a2, .long a3]) (rest := []) ⟨hx, hb, hml, hown, hts⟩ (kX3_put l dC dI s0 wd0 rz0 n0 cJ0 g0 a2 a3 (s.heap.size) (rg_w b_wd0 (by decide) (by decide)) b_rz0) (cwV 2 hts gX9_write__X3_put_V346 rfl rfl rfl hd_yX3_put ⟨lel 2 2 rfl, lel 45 45 rfl⟩) ⟨hw_fb, rcv_X3 hK hP (q0 := 2) rfl, (hw_use hP hD hK hN [2, 6] rfl (by decide) rfl [1] rfl)⟩ rfl rfl hl.1 rfl (lv_room (Nat.le_of_ble_eq_true rfl)) dX9_write_47 ⟨lel 0 0 rfl, lel 0 0 rfl⟩) hS (fun q _ h => hFc q h) hFc (fun u_52 t H1 locs ht hvm hw_r_51 hB hz1 hk1 hS => ?_)
          obtain ⟨o0_53, hP1, hK1, hD1⟩ := hB
          rw [ht] at hP1
          have hK1 := va_K.moved hvm.symm hK1
          obtain ⟨hP, hD⟩ := va_join (wr := [(h0, .inr (7, [.ref tp, .ref sc, .ref rd, .ref cu, .ref im, .ref ig, .ref sl, .ref se, .ref sm, .ref fc])), (sl, .inl (cS, 4, .inr (.inr (.inr (.inr (sf4 s0 s1 s2 s3)))))), (s1, .inr (2, [.int wd1, .int rz1, .ref n1])), (s2, .inr (2, [.int wd2, .int rz2, .ref n2])), (s3, .inr (2, [.int wd3, .int rz3, .ref n3])), (n1, .inl (cJ1, 60, .inr (.inl g1))), (n2, .inl (cJ2, 60, .inr (.inl g2))), (n3, .inl (cJ3, 60, .inr (.inl g3)))]) (w1 := [(s0, .inr (2, [.int wd0, .int rz0, .ref n0])), (n0, .inl (cJ0, 60, .inr (.inl o0_53)))]) hP hD [2, 6] [0, 1, 3, 4, 5, 7, 8, 9] rfl rfl (by decide) (by decide) hk1 hFc hP1 hD1
          have hK := (hK.sub (tys' := [(cS, .object RX3), (cJ1, .long), (cJ2, .long), (cJ3, .long)]) [0, 2, 3, 4] rfl).app hK1
          generalize H1 = H at hP hS ⊢
          have hP := hP.sub (ws' := [(h0, .inr (7, [.ref tp, .ref sc, .ref rd, .ref cu, .ref im, .ref ig, .ref sl, .ref se, .ref sm, .ref fc])), (sl, .inl (cS, 4, .inr (.inr (.inr (.inr (sf4 s0 s1 s2 s3)))))), (s0, .inr (2, [.int wd0, .int rz0, .ref n0])), (s1, .inr (2, [.int wd1, .int rz1, .ref n1])), (s2, .inr (2, [.int wd2, .int rz2, .ref n2])), (s3, .inr (2, [.int wd3, .int rz3, .ref n3])), (n0, .inl (cJ0, 60, .inr (.inl o0_53))), (n1, .inl (cJ1, 60, .inr (.inl g1))), (n2, .inl (cJ2, 60, .inr (.inl g2))), (n3, .inl (cJ3, 60, .inr (.inl g3)))]) [0, 1, 8, 2, 3, 4, 9, 5, 6, 7] rfl
          have hD := hD.sub (ws' := [(h0, .inr (7, [.ref tp, .ref sc, .ref rd, .ref cu, .ref im, .ref ig, .ref sl, .ref se, .ref sm, .ref fc])), (sl, .inl (cS, 4, .inr (.inr (.inr (.inr (sf4 s0 s1 s2 s3)))))), (s0, .inr (2, [.int wd0, .int rz0, .ref n0])), (s1, .inr (2, [.int wd1, .int rz1, .ref n1])), (s2, .inr (2, [.int wd2, .int rz2, .ref n2])), (s3, .inr (2, [.int wd3, .int rz3, .ref n3])), (n0, .inl (cJ0, 60, .inr (.inl o0_53))), (n1, .inl (cJ1, 60, .inr (.inl g1))), (n2, .inl (cJ2, 60, .inr (.inl g2))), (n3, .inl (cJ3, 60, .inr (.inl g3)))]) [0, 1, 8, 2, 3, 4, 9, 5, 6, 7] (by decide) rfl
          have hK := hK.sub (tys' := [(cS, .object RX3), (cJ0, .long), (cJ1, .long), (cJ2, .long), (cJ3, .long)]) [0, 4, 1, 2, 3] rfl
          have hP : va_P (dC, dI) vwCl [(h0, .inr (7, [.ref tp, .ref sc, .ref rd, .ref cu, .ref im, .ref ig, .ref sl, .ref se, .ref sm, .ref fc])), (sl, .inl (cS, 4, .inr (.inr (.inr (.inr (sf4 s0 s1 s2 s3)))))), (s0, .inr (2, [.int wd0, .int rz0, .ref n0])), (s1, .inr (2, [.int wd1, .int rz1, .ref n1])), (s2, .inr (2, [.int wd2, .int rz2, .ref n2])), (s3, .inr (2, [.int wd3, .int rz3, .ref n3])), (n0, .inl (cJ0, 60, .inr (.inl o0_53))), (n1, .inl (cJ1, 60, .inr (.inl g1))), (n2, .inl (cJ2, 60, .inr (.inl g2))), (n3, .inl (cJ3, 60, .inr (.inl g3)))] H := hP
          have hD : va_D A [(h0, .inr (7, [.ref tp, .ref sc, .ref rd, .ref cu, .ref im, .ref ig, .ref sl, .ref se, .ref sm, .ref fc])), (sl, .inl (cS, 4, .inr (.inr (.inr (.inr (sf4 s0 s1 s2 s3)))))), (s0, .inr (2, [.int wd0, .int rz0, .ref n0])), (s1, .inr (2, [.int wd1, .int rz1, .ref n1])), (s2, .inr (2, [.int wd2, .int rz2, .ref n2])), (s3, .inr (2, [.int wd3, .int rz3, .ref n3])), (n0, .inl (cJ0, 60, .inr (.inl o0_53))), (n1, .inl (cJ1, 60, .inr (.inl g1))), (n2, .inl (cJ2, 60, .inr (.inl g2))), (n3, .inl (cJ3, 60, .inr (.inl g3)))] := hD
          have hK : va_K (dC, dI) vwCl [(cS, .object RX3), (cJ0, .long), (cJ1, .long), (cJ2, .long), (cJ3, .long)] s := hK
          refine lv_iconst (v := 0) hx hb dX9_write_50 (by decide) ?_
          have hP9 := hP.sub (ws' := [(h0, .inr (7, [.ref tp, .ref sc, .ref rd, .ref cu, .ref im, .ref ig, .ref sl, .ref se, .ref sm, .ref fc])), (sl, .inl (cS, 4, .inr (.inr (.inr (.inr (sf4 s0 s1 s2 s3)))))), (s0, .inr (2, [.int wd0, .int rz0, .ref n0])), (s1, .inr (2, [.int wd1, .int rz1, .ref n1])), (s2, .inr (2, [.int wd2, .int rz2, .ref n2])), (s3, .inr (2, [.int wd3, .int rz3, .ref n3])), (n0, .inl (cJ0, 60, .inr (.inl o0_53))), (n1, .inl (cJ1, 60, .inr (.inl g1))), (n2, .inl (cJ2, 60, .inr (.inl g2))), (n3, .inl (cJ3, 60, .inr (.inl g3)))]) [0, 1, 2, 3, 4, 5, 6, 7, 8, 9] rfl
          have hD9 := hD.sub (ws' := [(h0, .inr (7, [.ref tp, .ref sc, .ref rd, .ref cu, .ref im, .ref ig, .ref sl, .ref se, .ref sm, .ref fc])), (sl, .inl (cS, 4, .inr (.inr (.inr (.inr (sf4 s0 s1 s2 s3)))))), (s0, .inr (2, [.int wd0, .int rz0, .ref n0])), (s1, .inr (2, [.int wd1, .int rz1, .ref n1])), (s2, .inr (2, [.int wd2, .int rz2, .ref n2])), (s3, .inr (2, [.int wd3, .int rz3, .ref n3])), (n0, .inl (cJ0, 60, .inr (.inl o0_53))), (n1, .inl (cJ1, 60, .inr (.inl g1))), (n2, .inl (cJ2, 60, .inr (.inl g2))), (n3, .inl (cJ3, 60, .inr (.inl g3)))]) [0, 1, 2, 3, 4, 5, 6, 7, 8, 9] (by decide) rfl
          have hK9 := hK.sub (tys' := [(cS, .object RX3), (cJ0, .long), (cJ1, .long), (cJ2, .long), (cJ3, .long)]) [0, 1, 2, 3, 4] rfl
          exact W.iret (v := 0) hx hb hr (fun t ht hW => ⟨⟨0, (), rfl, (rg_w (by decide : (0 : Int) ≤ (0 : Int32).toInt ∧ (0 : Int32).toInt ≤ 0) (by decide) (by decide)), o0_53, g1, g2, g3, by rw [ht]; exact hP9, va_K.moved hW.alike hK9, hD9⟩, hS.F ht⟩) hS.2.2 dX9_write_51
        ·
          have n_c_49 : (r_48.toInt : Int) = 0 := c_eq rfl (by decide) c_49
          have b_r_48 : (0 : Int) ≤ r_48.toInt ∧ r_48.toInt ≤ 0 := r_eq1 b_r_48 (by decide : (0 : Int) ≤ (0 : Int32).toInt ∧ (0 : Int32).toInt ≤ 0) n_c_49 (by decide)
          refine lv_bipush (v := (-7)) hx hb dX9_write_40 (by decide) ?_
          have hP9 := hP.sub (ws' := [(h0, .inr (7, [.ref tp, .ref sc, .ref rd, .ref cu, .ref im, .ref ig, .ref sl, .ref se, .ref sm, .ref fc])), (sl, .inl (cS, 4, .inr (.inr (.inr (.inr (sf4 s0 s1 s2 s3)))))), (s0, .inr (2, [.int wd0, .int rz0, .ref n0])), (s1, .inr (2, [.int wd1, .int rz1, .ref n1])), (s2, .inr (2, [.int wd2, .int rz2, .ref n2])), (s3, .inr (2, [.int wd3, .int rz3, .ref n3])), (n0, .inl (cJ0, 60, .inr (.inl g0))), (n1, .inl (cJ1, 60, .inr (.inl g1))), (n2, .inl (cJ2, 60, .inr (.inl g2))), (n3, .inl (cJ3, 60, .inr (.inl g3)))]) [0, 1, 2, 3, 4, 5, 6, 7, 8, 9] rfl
          have hD9 := hD.sub (ws' := [(h0, .inr (7, [.ref tp, .ref sc, .ref rd, .ref cu, .ref im, .ref ig, .ref sl, .ref se, .ref sm, .ref fc])), (sl, .inl (cS, 4, .inr (.inr (.inr (.inr (sf4 s0 s1 s2 s3)))))), (s0, .inr (2, [.int wd0, .int rz0, .ref n0])), (s1, .inr (2, [.int wd1, .int rz1, .ref n1])), (s2, .inr (2, [.int wd2, .int rz2, .ref n2])), (s3, .inr (2, [.int wd3, .int rz3, .ref n3])), (n0, .inl (cJ0, 60, .inr (.inl g0))), (n1, .inl (cJ1, 60, .inr (.inl g1))), (n2, .inl (cJ2, 60, .inr (.inl g2))), (n3, .inl (cJ3, 60, .inr (.inl g3)))]) [0, 1, 2, 3, 4, 5, 6, 7, 8, 9] (by decide) rfl
          have hK9 := hK.sub (tys' := [(cS, .object RX3), (cJ0, .long), (cJ1, .long), (cJ2, .long), (cJ3, .long)]) [0, 1, 2, 3, 4] rfl
          exact W.iret (v := (-7)) hx hb hr (fun t ht hW => ⟨⟨(-7), (), rfl, (rg_w (by decide : (-7 : Int) ≤ ((-7) : Int32).toInt ∧ ((-7) : Int32).toInt ≤ -7) (by decide) (by decide)), g0, g1, g2, g3, by rw [ht]; exact hP9, va_K.moved hW.alike hK9, hD9⟩, hS.F ht⟩) hS.2.2 dX9_write_42
      ·
        have n_c_46 : (r_45.toInt : Int) = 0 := c_eq rfl (by decide) c_46
        have b_r_45 : (0 : Int) ≤ r_45.toInt ∧ r_45.toInt ≤ 0 := r_eq1 b_r_45 (by decide : (0 : Int) ≤ (0 : Int32).toInt ∧ (0 : Int32).toInt ≤ 0) n_c_46 (by decide)
        refine lv_bipush (v := (-6)) hx hb dX9_write_27 (by decide) ?_
        have hP9 := hP.sub (ws' := [(h0, .inr (7, [.ref tp, .ref sc, .ref rd, .ref cu, .ref im, .ref ig, .ref sl, .ref se, .ref sm, .ref fc])), (sl, .inl (cS, 4, .inr (.inr (.inr (.inr (sf4 s0 s1 s2 s3)))))), (s0, .inr (2, [.int wd0, .int rz0, .ref n0])), (s1, .inr (2, [.int wd1, .int rz1, .ref n1])), (s2, .inr (2, [.int wd2, .int rz2, .ref n2])), (s3, .inr (2, [.int wd3, .int rz3, .ref n3])), (n0, .inl (cJ0, 60, .inr (.inl g0))), (n1, .inl (cJ1, 60, .inr (.inl g1))), (n2, .inl (cJ2, 60, .inr (.inl g2))), (n3, .inl (cJ3, 60, .inr (.inl g3)))]) [0, 1, 2, 3, 4, 5, 6, 7, 8, 9] rfl
        have hD9 := hD.sub (ws' := [(h0, .inr (7, [.ref tp, .ref sc, .ref rd, .ref cu, .ref im, .ref ig, .ref sl, .ref se, .ref sm, .ref fc])), (sl, .inl (cS, 4, .inr (.inr (.inr (.inr (sf4 s0 s1 s2 s3)))))), (s0, .inr (2, [.int wd0, .int rz0, .ref n0])), (s1, .inr (2, [.int wd1, .int rz1, .ref n1])), (s2, .inr (2, [.int wd2, .int rz2, .ref n2])), (s3, .inr (2, [.int wd3, .int rz3, .ref n3])), (n0, .inl (cJ0, 60, .inr (.inl g0))), (n1, .inl (cJ1, 60, .inr (.inl g1))), (n2, .inl (cJ2, 60, .inr (.inl g2))), (n3, .inl (cJ3, 60, .inr (.inl g3)))]) [0, 1, 2, 3, 4, 5, 6, 7, 8, 9] (by decide) rfl
        have hK9 := hK.sub (tys' := [(cS, .object RX3), (cJ0, .long), (cJ1, .long), (cJ2, .long), (cJ3, .long)]) [0, 1, 2, 3, 4] rfl
        exact W.iret (v := (-6)) hx hb hr (fun t ht hW => ⟨⟨(-6), (), rfl, (rg_w (by decide : (-6 : Int) ≤ ((-6) : Int32).toInt ∧ ((-6) : Int32).toInt ≤ -6) (by decide) (by decide)), g0, g1, g2, g3, by rw [ht]; exact hP9, va_K.moved hW.alike hK9, hD9⟩, hS.F ht⟩) hS.2.2 dX9_write_29
    ·
      obtain rfl : a1 = 1 := Int32.toInt_inj.mp (h_44.trans (by decide))
      refine va_aldq hx hb hK hP 1 0 rfl rfl (vp_in_b (by decide : (1 : Int) ≤ (1 : Int32).toInt ∧ (1 : Int32).toInt ≤ 1) (by decide) (by decide)) dX9_write_16 ?_
      refine W.eq (g2 := F0 m 17 ls (.ref s1 :: [])) (congrArg (fun v => F0 m 17 ls (va_rf v :: [])) (sf4_1 s0 s1 s2 s3)) ?_
      refine lv_astore (lv' := [(5, .ref s1), (0, .ref h0), (1, .int 1), (2, .int a2), (3, .long a3)]) hx hb dX9_write_17 hl (by decide) rfl (fun ls hl => ?_)
      refine lv_aload hx hb dX9_write_19 (lv_at hl 0 rfl) ?_
      refine vp_callSi (W.runV (As := []) (rest := []) ⟨hx, hb, hml, hown, hts⟩ (kX3_stands l dC dI s1 wd1 rz1 n1 b_wd1 b_rz1) (cwV 0 hts gX9_write__X3_stands_V270 rfl rfl rfl hd_yX3_stands ⟨lel 1 2 rfl, lel 20 45 rfl⟩) ⟨pw_fb, rcv_X3 hK hP (q0 := 3) rfl, (pw_use hP hK hN [3] rfl [] rfl)⟩ rfl rfl hl.1 rfl (lv_room (Nat.le_of_ble_eq_true rfl)) dX9_write_21 ⟨lel 0 0 rfl, lel 0 0 rfl⟩) (fun r_54 h_r_54 => ?_)
      obtain ⟨b_r_54, nz_r_54⟩ := h_r_54
      have b_r_54 : (0 : Int) ≤ r_54.toInt ∧ r_54.toInt ≤ 1 := b_r_54
      refine lv_if_ne (tgt := 30) hx hb dX9_write_24 (by decide) (fun c_55 => ?_) (fun c_55 => ?_)
      ·
        have n_c_55 : (r_54.toInt : Int) ≠ 0 := c_ne rfl (by decide) c_55
        have b_r_54 : (1 : Int) ≤ r_54.toInt ∧ r_54.toInt ≤ 1 := r_ne1 b_r_54 (by decide : (0 : Int) ≤ (0 : Int32).toInt ∧ (0 : Int32).toInt ≤ 0) n_c_55 (by decide)
        obtain ⟨b_wd1, g_56⟩ := nz_r_54 c_55
        refine lv_aload hx hb dX9_write_30 (lv_at hl 0 rfl) ?_
        refine lv_iload_n hx hb dX9_write_32 rfl (lv_at hl 3 rfl) ?_
        refine lv_iconst (v := 1) hx hb dX9_write_33 (by decide) ?_
        refine vp_callSi (W.runV (As := [.int a2, .int 1]) (rest := []) ⟨hx, hb, hml, hown, hts⟩ (kX3_hasStretch l dC dI s1 wd1 rz1 n1 a2 1 (rg_w b_wd1 (by decide) (by decide)) b_rz1) (cwV 2 hts gX9_write__X3_hasStretch_V343 rfl rfl rfl hd_yX3_hasStretch ⟨lel 1 2 rfl, lel 22 45 rfl⟩) ⟨pw_fb, rcv_X3 hK hP (q0 := 3) rfl, (pw_use hP hK hN [3] rfl [] rfl)⟩ rfl rfl hl.1 rfl (lv_room (Nat.le_of_ble_eq_true rfl)) dX9_write_34 ⟨lel 0 0 rfl, lel 0 0 rfl⟩) (fun r_57 h_r_57 => ?_)
        obtain ⟨b_r_57, nz_r_57⟩ := h_r_57
        have b_r_57 : (0 : Int) ≤ r_57.toInt ∧ r_57.toInt ≤ 1 := b_r_57
        refine lv_if_ne (tgt := 43) hx hb dX9_write_37 (by decide) (fun c_58 => ?_) (fun c_58 => ?_)
        ·
          have n_c_58 : (r_57.toInt : Int) ≠ 0 := c_ne rfl (by decide) c_58
          have b_r_57 : (1 : Int) ≤ r_57.toInt ∧ r_57.toInt ≤ 1 := r_ne1 b_r_57 (by decide : (0 : Int) ≤ (0 : Int32).toInt ∧ (0 : Int32).toInt ≤ 0) n_c_58 (by decide)
          obtain ⟨b_a2, _, g_59⟩ := nz_r_57 c_58
          have lt0_g_59 := (by decide : (1 : Int32).toInt = 1)
          refine lv_aload hx hb dX9_write_43 (lv_at hl 0 rfl) ?_
          refine lv_iload_n hx hb dX9_write_45 rfl (lv_at hl 3 rfl) ?_
          refine lv_lload_n hx hb dX9_write_46 rfl (lv_at hl 4 rfl) ?_
          have hFc := va_free (wc := [(s1, .inr (2, [.int wd1, .int rz1, .ref n1])), (n1, .inl (cJ1, 60, .inr (.inl g1)))]) hD hS hA [3, 7] rfl
          refine va_callv (va_runV (As := [.int a2, .long a3]) (rest := []) ⟨hx, hb, hml, hown, hts⟩ (kX3_put l dC dI s1 wd1 rz1 n1 cJ1 g1 a2 a3 (s.heap.size) (rg_w b_wd1 (by decide) (by decide)) b_rz1) (cwV 2 hts gX9_write__X3_put_V346 rfl rfl rfl hd_yX3_put ⟨lel 2 2 rfl, lel 45 45 rfl⟩) ⟨hw_fb, rcv_X3 hK hP (q0 := 3) rfl, (hw_use hP hD hK hN [3, 7] rfl (by decide) rfl [2] rfl)⟩ rfl rfl hl.1 rfl (lv_room (Nat.le_of_ble_eq_true rfl)) dX9_write_47 ⟨lel 0 0 rfl, lel 0 0 rfl⟩) hS (fun q _ h => hFc q h) hFc (fun u_61 t H1 locs ht hvm hw_r_60 hB hz1 hk1 hS => ?_)
          obtain ⟨o0_62, hP1, hK1, hD1⟩ := hB
          rw [ht] at hP1
          have hK1 := va_K.moved hvm.symm hK1
          obtain ⟨hP, hD⟩ := va_join (wr := [(h0, .inr (7, [.ref tp, .ref sc, .ref rd, .ref cu, .ref im, .ref ig, .ref sl, .ref se, .ref sm, .ref fc])), (sl, .inl (cS, 4, .inr (.inr (.inr (.inr (sf4 s0 s1 s2 s3)))))), (s0, .inr (2, [.int wd0, .int rz0, .ref n0])), (s2, .inr (2, [.int wd2, .int rz2, .ref n2])), (s3, .inr (2, [.int wd3, .int rz3, .ref n3])), (n0, .inl (cJ0, 60, .inr (.inl g0))), (n2, .inl (cJ2, 60, .inr (.inl g2))), (n3, .inl (cJ3, 60, .inr (.inl g3)))]) (w1 := [(s1, .inr (2, [.int wd1, .int rz1, .ref n1])), (n1, .inl (cJ1, 60, .inr (.inl o0_62)))]) hP hD [3, 7] [0, 1, 2, 4, 5, 6, 8, 9] rfl rfl (by decide) (by decide) hk1 hFc hP1 hD1
          have hK := (hK.sub (tys' := [(cS, .object RX3), (cJ0, .long), (cJ2, .long), (cJ3, .long)]) [0, 1, 3, 4] rfl).app hK1
          generalize H1 = H at hP hS ⊢
          have hP := hP.sub (ws' := [(h0, .inr (7, [.ref tp, .ref sc, .ref rd, .ref cu, .ref im, .ref ig, .ref sl, .ref se, .ref sm, .ref fc])), (sl, .inl (cS, 4, .inr (.inr (.inr (.inr (sf4 s0 s1 s2 s3)))))), (s0, .inr (2, [.int wd0, .int rz0, .ref n0])), (s1, .inr (2, [.int wd1, .int rz1, .ref n1])), (s2, .inr (2, [.int wd2, .int rz2, .ref n2])), (s3, .inr (2, [.int wd3, .int rz3, .ref n3])), (n0, .inl (cJ0, 60, .inr (.inl g0))), (n1, .inl (cJ1, 60, .inr (.inl o0_62))), (n2, .inl (cJ2, 60, .inr (.inl g2))), (n3, .inl (cJ3, 60, .inr (.inl g3)))]) [0, 1, 2, 8, 3, 4, 5, 9, 6, 7] rfl
          have hD := hD.sub (ws' := [(h0, .inr (7, [.ref tp, .ref sc, .ref rd, .ref cu, .ref im, .ref ig, .ref sl, .ref se, .ref sm, .ref fc])), (sl, .inl (cS, 4, .inr (.inr (.inr (.inr (sf4 s0 s1 s2 s3)))))), (s0, .inr (2, [.int wd0, .int rz0, .ref n0])), (s1, .inr (2, [.int wd1, .int rz1, .ref n1])), (s2, .inr (2, [.int wd2, .int rz2, .ref n2])), (s3, .inr (2, [.int wd3, .int rz3, .ref n3])), (n0, .inl (cJ0, 60, .inr (.inl g0))), (n1, .inl (cJ1, 60, .inr (.inl o0_62))), (n2, .inl (cJ2, 60, .inr (.inl g2))), (n3, .inl (cJ3, 60, .inr (.inl g3)))]) [0, 1, 2, 8, 3, 4, 5, 9, 6, 7] (by decide) rfl
          have hK := hK.sub (tys' := [(cS, .object RX3), (cJ0, .long), (cJ1, .long), (cJ2, .long), (cJ3, .long)]) [0, 1, 4, 2, 3] rfl
          have hP : va_P (dC, dI) vwCl [(h0, .inr (7, [.ref tp, .ref sc, .ref rd, .ref cu, .ref im, .ref ig, .ref sl, .ref se, .ref sm, .ref fc])), (sl, .inl (cS, 4, .inr (.inr (.inr (.inr (sf4 s0 s1 s2 s3)))))), (s0, .inr (2, [.int wd0, .int rz0, .ref n0])), (s1, .inr (2, [.int wd1, .int rz1, .ref n1])), (s2, .inr (2, [.int wd2, .int rz2, .ref n2])), (s3, .inr (2, [.int wd3, .int rz3, .ref n3])), (n0, .inl (cJ0, 60, .inr (.inl g0))), (n1, .inl (cJ1, 60, .inr (.inl o0_62))), (n2, .inl (cJ2, 60, .inr (.inl g2))), (n3, .inl (cJ3, 60, .inr (.inl g3)))] H := hP
          have hD : va_D A [(h0, .inr (7, [.ref tp, .ref sc, .ref rd, .ref cu, .ref im, .ref ig, .ref sl, .ref se, .ref sm, .ref fc])), (sl, .inl (cS, 4, .inr (.inr (.inr (.inr (sf4 s0 s1 s2 s3)))))), (s0, .inr (2, [.int wd0, .int rz0, .ref n0])), (s1, .inr (2, [.int wd1, .int rz1, .ref n1])), (s2, .inr (2, [.int wd2, .int rz2, .ref n2])), (s3, .inr (2, [.int wd3, .int rz3, .ref n3])), (n0, .inl (cJ0, 60, .inr (.inl g0))), (n1, .inl (cJ1, 60, .inr (.inl o0_62))), (n2, .inl (cJ2, 60, .inr (.inl g2))), (n3, .inl (cJ3, 60, .inr (.inl g3)))] := hD
          have hK : va_K (dC, dI) vwCl [(cS, .object RX3), (cJ0, .long), (cJ1, .long), (cJ2, .long), (cJ3, .long)] s := hK
          refine lv_iconst (v := 0) hx hb dX9_write_50 (by decide) ?_
          have hP9 := hP.sub (ws' := [(h0, .inr (7, [.ref tp, .ref sc, .ref rd, .ref cu, .ref im, .ref ig, .ref sl, .ref se, .ref sm, .ref fc])), (sl, .inl (cS, 4, .inr (.inr (.inr (.inr (sf4 s0 s1 s2 s3)))))), (s0, .inr (2, [.int wd0, .int rz0, .ref n0])), (s1, .inr (2, [.int wd1, .int rz1, .ref n1])), (s2, .inr (2, [.int wd2, .int rz2, .ref n2])), (s3, .inr (2, [.int wd3, .int rz3, .ref n3])), (n0, .inl (cJ0, 60, .inr (.inl g0))), (n1, .inl (cJ1, 60, .inr (.inl o0_62))), (n2, .inl (cJ2, 60, .inr (.inl g2))), (n3, .inl (cJ3, 60, .inr (.inl g3)))]) [0, 1, 2, 3, 4, 5, 6, 7, 8, 9] rfl
          have hD9 := hD.sub (ws' := [(h0, .inr (7, [.ref tp, .ref sc, .ref rd, .ref cu, .ref im, .ref ig, .ref sl, .ref se, .ref sm, .ref fc])), (sl, .inl (cS, 4, .inr (.inr (.inr (.inr (sf4 s0 s1 s2 s3)))))), (s0, .inr (2, [.int wd0, .int rz0, .ref n0])), (s1, .inr (2, [.int wd1, .int rz1, .ref n1])), (s2, .inr (2, [.int wd2, .int rz2, .ref n2])), (s3, .inr (2, [.int wd3, .int rz3, .ref n3])), (n0, .inl (cJ0, 60, .inr (.inl g0))), (n1, .inl (cJ1, 60, .inr (.inl o0_62))), (n2, .inl (cJ2, 60, .inr (.inl g2))), (n3, .inl (cJ3, 60, .inr (.inl g3)))]) [0, 1, 2, 3, 4, 5, 6, 7, 8, 9] (by decide) rfl
          have hK9 := hK.sub (tys' := [(cS, .object RX3), (cJ0, .long), (cJ1, .long), (cJ2, .long), (cJ3, .long)]) [0, 1, 2, 3, 4] rfl
          exact W.iret (v := 0) hx hb hr (fun t ht hW => ⟨⟨0, (), rfl, (rg_w (by decide : (0 : Int) ≤ (0 : Int32).toInt ∧ (0 : Int32).toInt ≤ 0) (by decide) (by decide)), g0, o0_62, g2, g3, by rw [ht]; exact hP9, va_K.moved hW.alike hK9, hD9⟩, hS.F ht⟩) hS.2.2 dX9_write_51
        ·
          have n_c_58 : (r_57.toInt : Int) = 0 := c_eq rfl (by decide) c_58
          have b_r_57 : (0 : Int) ≤ r_57.toInt ∧ r_57.toInt ≤ 0 := r_eq1 b_r_57 (by decide : (0 : Int) ≤ (0 : Int32).toInt ∧ (0 : Int32).toInt ≤ 0) n_c_58 (by decide)
          refine lv_bipush (v := (-7)) hx hb dX9_write_40 (by decide) ?_
          have hP9 := hP.sub (ws' := [(h0, .inr (7, [.ref tp, .ref sc, .ref rd, .ref cu, .ref im, .ref ig, .ref sl, .ref se, .ref sm, .ref fc])), (sl, .inl (cS, 4, .inr (.inr (.inr (.inr (sf4 s0 s1 s2 s3)))))), (s0, .inr (2, [.int wd0, .int rz0, .ref n0])), (s1, .inr (2, [.int wd1, .int rz1, .ref n1])), (s2, .inr (2, [.int wd2, .int rz2, .ref n2])), (s3, .inr (2, [.int wd3, .int rz3, .ref n3])), (n0, .inl (cJ0, 60, .inr (.inl g0))), (n1, .inl (cJ1, 60, .inr (.inl g1))), (n2, .inl (cJ2, 60, .inr (.inl g2))), (n3, .inl (cJ3, 60, .inr (.inl g3)))]) [0, 1, 2, 3, 4, 5, 6, 7, 8, 9] rfl
          have hD9 := hD.sub (ws' := [(h0, .inr (7, [.ref tp, .ref sc, .ref rd, .ref cu, .ref im, .ref ig, .ref sl, .ref se, .ref sm, .ref fc])), (sl, .inl (cS, 4, .inr (.inr (.inr (.inr (sf4 s0 s1 s2 s3)))))), (s0, .inr (2, [.int wd0, .int rz0, .ref n0])), (s1, .inr (2, [.int wd1, .int rz1, .ref n1])), (s2, .inr (2, [.int wd2, .int rz2, .ref n2])), (s3, .inr (2, [.int wd3, .int rz3, .ref n3])), (n0, .inl (cJ0, 60, .inr (.inl g0))), (n1, .inl (cJ1, 60, .inr (.inl g1))), (n2, .inl (cJ2, 60, .inr (.inl g2))), (n3, .inl (cJ3, 60, .inr (.inl g3)))]) [0, 1, 2, 3, 4, 5, 6, 7, 8, 9] (by decide) rfl
          have hK9 := hK.sub (tys' := [(cS, .object RX3), (cJ0, .long), (cJ1, .long), (cJ2, .long), (cJ3, .long)]) [0, 1, 2, 3, 4] rfl
          exact W.iret (v := (-7)) hx hb hr (fun t ht hW => ⟨⟨(-7), (), rfl, (rg_w (by decide : (-7 : Int) ≤ ((-7) : Int32).toInt ∧ ((-7) : Int32).toInt ≤ -7) (by decide) (by decide)), g0, g1, g2, g3, by rw [ht]; exact hP9, va_K.moved hW.alike hK9, hD9⟩, hS.F ht⟩) hS.2.2 dX9_write_42
      ·
        have n_c_55 : (r_54.toInt : Int) = 0 := c_eq rfl (by decide) c_55
        have b_r_54 : (0 : Int) ≤ r_54.toInt ∧ r_54.toInt ≤ 0 := r_eq1 b_r_54 (by decide : (0 : Int) ≤ (0 : Int32).toInt ∧ (0 : Int32).toInt ≤ 0) n_c_55 (by decide)
        refine lv_bipush (v := (-6)) hx hb dX9_write_27 (by decide) ?_
        have hP9 := hP.sub (ws' := [(h0, .inr (7, [.ref tp, .ref sc, .ref rd, .ref cu, .ref im, .ref ig, .ref sl, .ref se, .ref sm, .ref fc])), (sl, .inl (cS, 4, .inr (.inr (.inr (.inr (sf4 s0 s1 s2 s3)))))), (s0, .inr (2, [.int wd0, .int rz0, .ref n0])), (s1, .inr (2, [.int wd1, .int rz1, .ref n1])), (s2, .inr (2, [.int wd2, .int rz2, .ref n2])), (s3, .inr (2, [.int wd3, .int rz3, .ref n3])), (n0, .inl (cJ0, 60, .inr (.inl g0))), (n1, .inl (cJ1, 60, .inr (.inl g1))), (n2, .inl (cJ2, 60, .inr (.inl g2))), (n3, .inl (cJ3, 60, .inr (.inl g3)))]) [0, 1, 2, 3, 4, 5, 6, 7, 8, 9] rfl
        have hD9 := hD.sub (ws' := [(h0, .inr (7, [.ref tp, .ref sc, .ref rd, .ref cu, .ref im, .ref ig, .ref sl, .ref se, .ref sm, .ref fc])), (sl, .inl (cS, 4, .inr (.inr (.inr (.inr (sf4 s0 s1 s2 s3)))))), (s0, .inr (2, [.int wd0, .int rz0, .ref n0])), (s1, .inr (2, [.int wd1, .int rz1, .ref n1])), (s2, .inr (2, [.int wd2, .int rz2, .ref n2])), (s3, .inr (2, [.int wd3, .int rz3, .ref n3])), (n0, .inl (cJ0, 60, .inr (.inl g0))), (n1, .inl (cJ1, 60, .inr (.inl g1))), (n2, .inl (cJ2, 60, .inr (.inl g2))), (n3, .inl (cJ3, 60, .inr (.inl g3)))]) [0, 1, 2, 3, 4, 5, 6, 7, 8, 9] (by decide) rfl
        have hK9 := hK.sub (tys' := [(cS, .object RX3), (cJ0, .long), (cJ1, .long), (cJ2, .long), (cJ3, .long)]) [0, 1, 2, 3, 4] rfl
        exact W.iret (v := (-6)) hx hb hr (fun t ht hW => ⟨⟨(-6), (), rfl, (rg_w (by decide : (-6 : Int) ≤ ((-6) : Int32).toInt ∧ ((-6) : Int32).toInt ≤ -6) (by decide) (by decide)), g0, g1, g2, g3, by rw [ht]; exact hP9, va_K.moved hW.alike hK9, hD9⟩, hS.F ht⟩) hS.2.2 dX9_write_29
    ·
      obtain rfl : a1 = 2 := Int32.toInt_inj.mp (h_44.trans (by decide))
      refine va_aldq hx hb hK hP 1 0 rfl rfl (vp_in_b (by decide : (2 : Int) ≤ (2 : Int32).toInt ∧ (2 : Int32).toInt ≤ 2) (by decide) (by decide)) dX9_write_16 ?_
      refine W.eq (g2 := F0 m 17 ls (.ref s2 :: [])) (congrArg (fun v => F0 m 17 ls (va_rf v :: [])) (sf4_2 s0 s1 s2 s3)) ?_
      refine lv_astore (lv' := [(5, .ref s2), (0, .ref h0), (1, .int 2), (2, .int a2), (3, .long a3)]) hx hb dX9_write_17 hl (by decide) rfl (fun ls hl => ?_)
      refine lv_aload hx hb dX9_write_19 (lv_at hl 0 rfl) ?_
      refine vp_callSi (W.runV (As := []) (rest := []) ⟨hx, hb, hml, hown, hts⟩ (kX3_stands l dC dI s2 wd2 rz2 n2 b_wd2 b_rz2) (cwV 0 hts gX9_write__X3_stands_V270 rfl rfl rfl hd_yX3_stands ⟨lel 1 2 rfl, lel 20 45 rfl⟩) ⟨pw_fb, rcv_X3 hK hP (q0 := 4) rfl, (pw_use hP hK hN [4] rfl [] rfl)⟩ rfl rfl hl.1 rfl (lv_room (Nat.le_of_ble_eq_true rfl)) dX9_write_21 ⟨lel 0 0 rfl, lel 0 0 rfl⟩) (fun r_63 h_r_63 => ?_)
      obtain ⟨b_r_63, nz_r_63⟩ := h_r_63
      have b_r_63 : (0 : Int) ≤ r_63.toInt ∧ r_63.toInt ≤ 1 := b_r_63
      refine lv_if_ne (tgt := 30) hx hb dX9_write_24 (by decide) (fun c_64 => ?_) (fun c_64 => ?_)
      ·
        have n_c_64 : (r_63.toInt : Int) ≠ 0 := c_ne rfl (by decide) c_64
        have b_r_63 : (1 : Int) ≤ r_63.toInt ∧ r_63.toInt ≤ 1 := r_ne1 b_r_63 (by decide : (0 : Int) ≤ (0 : Int32).toInt ∧ (0 : Int32).toInt ≤ 0) n_c_64 (by decide)
        obtain ⟨b_wd2, g_65⟩ := nz_r_63 c_64
        refine lv_aload hx hb dX9_write_30 (lv_at hl 0 rfl) ?_
        refine lv_iload_n hx hb dX9_write_32 rfl (lv_at hl 3 rfl) ?_
        refine lv_iconst (v := 1) hx hb dX9_write_33 (by decide) ?_
        refine vp_callSi (W.runV (As := [.int a2, .int 1]) (rest := []) ⟨hx, hb, hml, hown, hts⟩ (kX3_hasStretch l dC dI s2 wd2 rz2 n2 a2 1 (rg_w b_wd2 (by decide) (by decide)) b_rz2) (cwV 2 hts gX9_write__X3_hasStretch_V343 rfl rfl rfl hd_yX3_hasStretch ⟨lel 1 2 rfl, lel 22 45 rfl⟩) ⟨pw_fb, rcv_X3 hK hP (q0 := 4) rfl, (pw_use hP hK hN [4] rfl [] rfl)⟩ rfl rfl hl.1 rfl (lv_room (Nat.le_of_ble_eq_true rfl)) dX9_write_34 ⟨lel 0 0 rfl, lel 0 0 rfl⟩) (fun r_66 h_r_66 => ?_)
        obtain ⟨b_r_66, nz_r_66⟩ := h_r_66
        have b_r_66 : (0 : Int) ≤ r_66.toInt ∧ r_66.toInt ≤ 1 := b_r_66
        refine lv_if_ne (tgt := 43) hx hb dX9_write_37 (by decide) (fun c_67 => ?_) (fun c_67 => ?_)
        ·
          have n_c_67 : (r_66.toInt : Int) ≠ 0 := c_ne rfl (by decide) c_67
          have b_r_66 : (1 : Int) ≤ r_66.toInt ∧ r_66.toInt ≤ 1 := r_ne1 b_r_66 (by decide : (0 : Int) ≤ (0 : Int32).toInt ∧ (0 : Int32).toInt ≤ 0) n_c_67 (by decide)
          obtain ⟨b_a2, _, g_68⟩ := nz_r_66 c_67
          have lt0_g_68 := (by decide : (1 : Int32).toInt = 1)
          refine lv_aload hx hb dX9_write_43 (lv_at hl 0 rfl) ?_
          refine lv_iload_n hx hb dX9_write_45 rfl (lv_at hl 3 rfl) ?_
          refine lv_lload_n hx hb dX9_write_46 rfl (lv_at hl 4 rfl) ?_
          have hFc := va_free (wc := [(s2, .inr (2, [.int wd2, .int rz2, .ref n2])), (n2, .inl (cJ2, 60, .inr (.inl g2)))]) hD hS hA [4, 8] rfl
          refine va_callv (va_runV (As := [.int a2, .long a3]) (rest := []) ⟨hx, hb, hml, hown, hts⟩ (kX3_put l dC dI s2 wd2 rz2 n2 cJ2 g2 a2 a3 (s.heap.size) (rg_w b_wd2 (by decide) (by decide)) b_rz2) (cwV 2 hts gX9_write__X3_put_V346 rfl rfl rfl hd_yX3_put ⟨lel 2 2 rfl, lel 45 45 rfl⟩) ⟨hw_fb, rcv_X3 hK hP (q0 := 4) rfl, (hw_use hP hD hK hN [4, 8] rfl (by decide) rfl [3] rfl)⟩ rfl rfl hl.1 rfl (lv_room (Nat.le_of_ble_eq_true rfl)) dX9_write_47 ⟨lel 0 0 rfl, lel 0 0 rfl⟩) hS (fun q _ h => hFc q h) hFc (fun u_70 t H1 locs ht hvm hw_r_69 hB hz1 hk1 hS => ?_)
          obtain ⟨o0_71, hP1, hK1, hD1⟩ := hB
          rw [ht] at hP1
          have hK1 := va_K.moved hvm.symm hK1
          obtain ⟨hP, hD⟩ := va_join (wr := [(h0, .inr (7, [.ref tp, .ref sc, .ref rd, .ref cu, .ref im, .ref ig, .ref sl, .ref se, .ref sm, .ref fc])), (sl, .inl (cS, 4, .inr (.inr (.inr (.inr (sf4 s0 s1 s2 s3)))))), (s0, .inr (2, [.int wd0, .int rz0, .ref n0])), (s1, .inr (2, [.int wd1, .int rz1, .ref n1])), (s3, .inr (2, [.int wd3, .int rz3, .ref n3])), (n0, .inl (cJ0, 60, .inr (.inl g0))), (n1, .inl (cJ1, 60, .inr (.inl g1))), (n3, .inl (cJ3, 60, .inr (.inl g3)))]) (w1 := [(s2, .inr (2, [.int wd2, .int rz2, .ref n2])), (n2, .inl (cJ2, 60, .inr (.inl o0_71)))]) hP hD [4, 8] [0, 1, 2, 3, 5, 6, 7, 9] rfl rfl (by decide) (by decide) hk1 hFc hP1 hD1
          have hK := (hK.sub (tys' := [(cS, .object RX3), (cJ0, .long), (cJ1, .long), (cJ3, .long)]) [0, 1, 2, 4] rfl).app hK1
          generalize H1 = H at hP hS ⊢
          have hP := hP.sub (ws' := [(h0, .inr (7, [.ref tp, .ref sc, .ref rd, .ref cu, .ref im, .ref ig, .ref sl, .ref se, .ref sm, .ref fc])), (sl, .inl (cS, 4, .inr (.inr (.inr (.inr (sf4 s0 s1 s2 s3)))))), (s0, .inr (2, [.int wd0, .int rz0, .ref n0])), (s1, .inr (2, [.int wd1, .int rz1, .ref n1])), (s2, .inr (2, [.int wd2, .int rz2, .ref n2])), (s3, .inr (2, [.int wd3, .int rz3, .ref n3])), (n0, .inl (cJ0, 60, .inr (.inl g0))), (n1, .inl (cJ1, 60, .inr (.inl g1))), (n2, .inl (cJ2, 60, .inr (.inl o0_71))), (n3, .inl (cJ3, 60, .inr (.inl g3)))]) [0, 1, 2, 3, 8, 4, 5, 6, 9, 7] rfl
          have hD := hD.sub (ws' := [(h0, .inr (7, [.ref tp, .ref sc, .ref rd, .ref cu, .ref im, .ref ig, .ref sl, .ref se, .ref sm, .ref fc])), (sl, .inl (cS, 4, .inr (.inr (.inr (.inr (sf4 s0 s1 s2 s3)))))), (s0, .inr (2, [.int wd0, .int rz0, .ref n0])), (s1, .inr (2, [.int wd1, .int rz1, .ref n1])), (s2, .inr (2, [.int wd2, .int rz2, .ref n2])), (s3, .inr (2, [.int wd3, .int rz3, .ref n3])), (n0, .inl (cJ0, 60, .inr (.inl g0))), (n1, .inl (cJ1, 60, .inr (.inl g1))), (n2, .inl (cJ2, 60, .inr (.inl o0_71))), (n3, .inl (cJ3, 60, .inr (.inl g3)))]) [0, 1, 2, 3, 8, 4, 5, 6, 9, 7] (by decide) rfl
          have hK := hK.sub (tys' := [(cS, .object RX3), (cJ0, .long), (cJ1, .long), (cJ2, .long), (cJ3, .long)]) [0, 1, 2, 4, 3] rfl
          have hP : va_P (dC, dI) vwCl [(h0, .inr (7, [.ref tp, .ref sc, .ref rd, .ref cu, .ref im, .ref ig, .ref sl, .ref se, .ref sm, .ref fc])), (sl, .inl (cS, 4, .inr (.inr (.inr (.inr (sf4 s0 s1 s2 s3)))))), (s0, .inr (2, [.int wd0, .int rz0, .ref n0])), (s1, .inr (2, [.int wd1, .int rz1, .ref n1])), (s2, .inr (2, [.int wd2, .int rz2, .ref n2])), (s3, .inr (2, [.int wd3, .int rz3, .ref n3])), (n0, .inl (cJ0, 60, .inr (.inl g0))), (n1, .inl (cJ1, 60, .inr (.inl g1))), (n2, .inl (cJ2, 60, .inr (.inl o0_71))), (n3, .inl (cJ3, 60, .inr (.inl g3)))] H := hP
          have hD : va_D A [(h0, .inr (7, [.ref tp, .ref sc, .ref rd, .ref cu, .ref im, .ref ig, .ref sl, .ref se, .ref sm, .ref fc])), (sl, .inl (cS, 4, .inr (.inr (.inr (.inr (sf4 s0 s1 s2 s3)))))), (s0, .inr (2, [.int wd0, .int rz0, .ref n0])), (s1, .inr (2, [.int wd1, .int rz1, .ref n1])), (s2, .inr (2, [.int wd2, .int rz2, .ref n2])), (s3, .inr (2, [.int wd3, .int rz3, .ref n3])), (n0, .inl (cJ0, 60, .inr (.inl g0))), (n1, .inl (cJ1, 60, .inr (.inl g1))), (n2, .inl (cJ2, 60, .inr (.inl o0_71))), (n3, .inl (cJ3, 60, .inr (.inl g3)))] := hD
          have hK : va_K (dC, dI) vwCl [(cS, .object RX3), (cJ0, .long), (cJ1, .long), (cJ2, .long), (cJ3, .long)] s := hK
          refine lv_iconst (v := 0) hx hb dX9_write_50 (by decide) ?_
          have hP9 := hP.sub (ws' := [(h0, .inr (7, [.ref tp, .ref sc, .ref rd, .ref cu, .ref im, .ref ig, .ref sl, .ref se, .ref sm, .ref fc])), (sl, .inl (cS, 4, .inr (.inr (.inr (.inr (sf4 s0 s1 s2 s3)))))), (s0, .inr (2, [.int wd0, .int rz0, .ref n0])), (s1, .inr (2, [.int wd1, .int rz1, .ref n1])), (s2, .inr (2, [.int wd2, .int rz2, .ref n2])), (s3, .inr (2, [.int wd3, .int rz3, .ref n3])), (n0, .inl (cJ0, 60, .inr (.inl g0))), (n1, .inl (cJ1, 60, .inr (.inl g1))), (n2, .inl (cJ2, 60, .inr (.inl o0_71))), (n3, .inl (cJ3, 60, .inr (.inl g3)))]) [0, 1, 2, 3, 4, 5, 6, 7, 8, 9] rfl
          have hD9 := hD.sub (ws' := [(h0, .inr (7, [.ref tp, .ref sc, .ref rd, .ref cu, .ref im, .ref ig, .ref sl, .ref se, .ref sm, .ref fc])), (sl, .inl (cS, 4, .inr (.inr (.inr (.inr (sf4 s0 s1 s2 s3)))))), (s0, .inr (2, [.int wd0, .int rz0, .ref n0])), (s1, .inr (2, [.int wd1, .int rz1, .ref n1])), (s2, .inr (2, [.int wd2, .int rz2, .ref n2])), (s3, .inr (2, [.int wd3, .int rz3, .ref n3])), (n0, .inl (cJ0, 60, .inr (.inl g0))), (n1, .inl (cJ1, 60, .inr (.inl g1))), (n2, .inl (cJ2, 60, .inr (.inl o0_71))), (n3, .inl (cJ3, 60, .inr (.inl g3)))]) [0, 1, 2, 3, 4, 5, 6, 7, 8, 9] (by decide) rfl
          have hK9 := hK.sub (tys' := [(cS, .object RX3), (cJ0, .long), (cJ1, .long), (cJ2, .long), (cJ3, .long)]) [0, 1, 2, 3, 4] rfl
          exact W.iret (v := 0) hx hb hr (fun t ht hW => ⟨⟨0, (), rfl, (rg_w (by decide : (0 : Int) ≤ (0 : Int32).toInt ∧ (0 : Int32).toInt ≤ 0) (by decide) (by decide)), g0, g1, o0_71, g3, by rw [ht]; exact hP9, va_K.moved hW.alike hK9, hD9⟩, hS.F ht⟩) hS.2.2 dX9_write_51
        ·
          have n_c_67 : (r_66.toInt : Int) = 0 := c_eq rfl (by decide) c_67
          have b_r_66 : (0 : Int) ≤ r_66.toInt ∧ r_66.toInt ≤ 0 := r_eq1 b_r_66 (by decide : (0 : Int) ≤ (0 : Int32).toInt ∧ (0 : Int32).toInt ≤ 0) n_c_67 (by decide)
          refine lv_bipush (v := (-7)) hx hb dX9_write_40 (by decide) ?_
          have hP9 := hP.sub (ws' := [(h0, .inr (7, [.ref tp, .ref sc, .ref rd, .ref cu, .ref im, .ref ig, .ref sl, .ref se, .ref sm, .ref fc])), (sl, .inl (cS, 4, .inr (.inr (.inr (.inr (sf4 s0 s1 s2 s3)))))), (s0, .inr (2, [.int wd0, .int rz0, .ref n0])), (s1, .inr (2, [.int wd1, .int rz1, .ref n1])), (s2, .inr (2, [.int wd2, .int rz2, .ref n2])), (s3, .inr (2, [.int wd3, .int rz3, .ref n3])), (n0, .inl (cJ0, 60, .inr (.inl g0))), (n1, .inl (cJ1, 60, .inr (.inl g1))), (n2, .inl (cJ2, 60, .inr (.inl g2))), (n3, .inl (cJ3, 60, .inr (.inl g3)))]) [0, 1, 2, 3, 4, 5, 6, 7, 8, 9] rfl
          have hD9 := hD.sub (ws' := [(h0, .inr (7, [.ref tp, .ref sc, .ref rd, .ref cu, .ref im, .ref ig, .ref sl, .ref se, .ref sm, .ref fc])), (sl, .inl (cS, 4, .inr (.inr (.inr (.inr (sf4 s0 s1 s2 s3)))))), (s0, .inr (2, [.int wd0, .int rz0, .ref n0])), (s1, .inr (2, [.int wd1, .int rz1, .ref n1])), (s2, .inr (2, [.int wd2, .int rz2, .ref n2])), (s3, .inr (2, [.int wd3, .int rz3, .ref n3])), (n0, .inl (cJ0, 60, .inr (.inl g0))), (n1, .inl (cJ1, 60, .inr (.inl g1))), (n2, .inl (cJ2, 60, .inr (.inl g2))), (n3, .inl (cJ3, 60, .inr (.inl g3)))]) [0, 1, 2, 3, 4, 5, 6, 7, 8, 9] (by decide) rfl
          have hK9 := hK.sub (tys' := [(cS, .object RX3), (cJ0, .long), (cJ1, .long), (cJ2, .long), (cJ3, .long)]) [0, 1, 2, 3, 4] rfl
          exact W.iret (v := (-7)) hx hb hr (fun t ht hW => ⟨⟨(-7), (), rfl, (rg_w (by decide : (-7 : Int) ≤ ((-7) : Int32).toInt ∧ ((-7) : Int32).toInt ≤ -7) (by decide) (by decide)), g0, g1, g2, g3, by rw [ht]; exact hP9, va_K.moved hW.alike hK9, hD9⟩, hS.F ht⟩) hS.2.2 dX9_write_42
      ·
        have n_c_64 : (r_63.toInt : Int) = 0 := c_eq rfl (by decide) c_64
        have b_r_63 : (0 : Int) ≤ r_63.toInt ∧ r_63.toInt ≤ 0 := r_eq1 b_r_63 (by decide : (0 : Int) ≤ (0 : Int32).toInt ∧ (0 : Int32).toInt ≤ 0) n_c_64 (by decide)
        refine lv_bipush (v := (-6)) hx hb dX9_write_27 (by decide) ?_
        have hP9 := hP.sub (ws' := [(h0, .inr (7, [.ref tp, .ref sc, .ref rd, .ref cu, .ref im, .ref ig, .ref sl, .ref se, .ref sm, .ref fc])), (sl, .inl (cS, 4, .inr (.inr (.inr (.inr (sf4 s0 s1 s2 s3)))))), (s0, .inr (2, [.int wd0, .int rz0, .ref n0])), (s1, .inr (2, [.int wd1, .int rz1, .ref n1])), (s2, .inr (2, [.int wd2, .int rz2, .ref n2])), (s3, .inr (2, [.int wd3, .int rz3, .ref n3])), (n0, .inl (cJ0, 60, .inr (.inl g0))), (n1, .inl (cJ1, 60, .inr (.inl g1))), (n2, .inl (cJ2, 60, .inr (.inl g2))), (n3, .inl (cJ3, 60, .inr (.inl g3)))]) [0, 1, 2, 3, 4, 5, 6, 7, 8, 9] rfl
        have hD9 := hD.sub (ws' := [(h0, .inr (7, [.ref tp, .ref sc, .ref rd, .ref cu, .ref im, .ref ig, .ref sl, .ref se, .ref sm, .ref fc])), (sl, .inl (cS, 4, .inr (.inr (.inr (.inr (sf4 s0 s1 s2 s3)))))), (s0, .inr (2, [.int wd0, .int rz0, .ref n0])), (s1, .inr (2, [.int wd1, .int rz1, .ref n1])), (s2, .inr (2, [.int wd2, .int rz2, .ref n2])), (s3, .inr (2, [.int wd3, .int rz3, .ref n3])), (n0, .inl (cJ0, 60, .inr (.inl g0))), (n1, .inl (cJ1, 60, .inr (.inl g1))), (n2, .inl (cJ2, 60, .inr (.inl g2))), (n3, .inl (cJ3, 60, .inr (.inl g3)))]) [0, 1, 2, 3, 4, 5, 6, 7, 8, 9] (by decide) rfl
        have hK9 := hK.sub (tys' := [(cS, .object RX3), (cJ0, .long), (cJ1, .long), (cJ2, .long), (cJ3, .long)]) [0, 1, 2, 3, 4] rfl
        exact W.iret (v := (-6)) hx hb hr (fun t ht hW => ⟨⟨(-6), (), rfl, (rg_w (by decide : (-6 : Int) ≤ ((-6) : Int32).toInt ∧ ((-6) : Int32).toInt ≤ -6) (by decide) (by decide)), g0, g1, g2, g3, by rw [ht]; exact hP9, va_K.moved hW.alike hK9, hD9⟩, hS.F ht⟩) hS.2.2 dX9_write_29
    ·
      obtain rfl : a1 = 3 := Int32.toInt_inj.mp (h_44.trans (by decide))
      refine va_aldq hx hb hK hP 1 0 rfl rfl (vp_in_b (by decide : (3 : Int) ≤ (3 : Int32).toInt ∧ (3 : Int32).toInt ≤ 3) (by decide) (by decide)) dX9_write_16 ?_
      refine W.eq (g2 := F0 m 17 ls (.ref s3 :: [])) (congrArg (fun v => F0 m 17 ls (va_rf v :: [])) (sf4_3 s0 s1 s2 s3)) ?_
      refine lv_astore (lv' := [(5, .ref s3), (0, .ref h0), (1, .int 3), (2, .int a2), (3, .long a3)]) hx hb dX9_write_17 hl (by decide) rfl (fun ls hl => ?_)
      refine lv_aload hx hb dX9_write_19 (lv_at hl 0 rfl) ?_
      refine vp_callSi (W.runV (As := []) (rest := []) ⟨hx, hb, hml, hown, hts⟩ (kX3_stands l dC dI s3 wd3 rz3 n3 b_wd3 b_rz3) (cwV 0 hts gX9_write__X3_stands_V270 rfl rfl rfl hd_yX3_stands ⟨lel 1 2 rfl, lel 20 45 rfl⟩) ⟨pw_fb, rcv_X3 hK hP (q0 := 5) rfl, (pw_use hP hK hN [5] rfl [] rfl)⟩ rfl rfl hl.1 rfl (lv_room (Nat.le_of_ble_eq_true rfl)) dX9_write_21 ⟨lel 0 0 rfl, lel 0 0 rfl⟩) (fun r_72 h_r_72 => ?_)
      obtain ⟨b_r_72, nz_r_72⟩ := h_r_72
      have b_r_72 : (0 : Int) ≤ r_72.toInt ∧ r_72.toInt ≤ 1 := b_r_72
      refine lv_if_ne (tgt := 30) hx hb dX9_write_24 (by decide) (fun c_73 => ?_) (fun c_73 => ?_)
      ·
        have n_c_73 : (r_72.toInt : Int) ≠ 0 := c_ne rfl (by decide) c_73
        have b_r_72 : (1 : Int) ≤ r_72.toInt ∧ r_72.toInt ≤ 1 := r_ne1 b_r_72 (by decide : (0 : Int) ≤ (0 : Int32).toInt ∧ (0 : Int32).toInt ≤ 0) n_c_73 (by decide)
        obtain ⟨b_wd3, g_74⟩ := nz_r_72 c_73
        refine lv_aload hx hb dX9_write_30 (lv_at hl 0 rfl) ?_
        refine lv_iload_n hx hb dX9_write_32 rfl (lv_at hl 3 rfl) ?_
        refine lv_iconst (v := 1) hx hb dX9_write_33 (by decide) ?_
        refine vp_callSi (W.runV (As := [.int a2, .int 1]) (rest := []) ⟨hx, hb, hml, hown, hts⟩ (kX3_hasStretch l dC dI s3 wd3 rz3 n3 a2 1 (rg_w b_wd3 (by decide) (by decide)) b_rz3) (cwV 2 hts gX9_write__X3_hasStretch_V343 rfl rfl rfl hd_yX3_hasStretch ⟨lel 1 2 rfl, lel 22 45 rfl⟩) ⟨pw_fb, rcv_X3 hK hP (q0 := 5) rfl, (pw_use hP hK hN [5] rfl [] rfl)⟩ rfl rfl hl.1 rfl (lv_room (Nat.le_of_ble_eq_true rfl)) dX9_write_34 ⟨lel 0 0 rfl, lel 0 0 rfl⟩) (fun r_75 h_r_75 => ?_)
        obtain ⟨b_r_75, nz_r_75⟩ := h_r_75
        have b_r_75 : (0 : Int) ≤ r_75.toInt ∧ r_75.toInt ≤ 1 := b_r_75
        refine lv_if_ne (tgt := 43) hx hb dX9_write_37 (by decide) (fun c_76 => ?_) (fun c_76 => ?_)
        ·
          have n_c_76 : (r_75.toInt : Int) ≠ 0 := c_ne rfl (by decide) c_76
          have b_r_75 : (1 : Int) ≤ r_75.toInt ∧ r_75.toInt ≤ 1 := r_ne1 b_r_75 (by decide : (0 : Int) ≤ (0 : Int32).toInt ∧ (0 : Int32).toInt ≤ 0) n_c_76 (by decide)
          obtain ⟨b_a2, _, g_77⟩ := nz_r_75 c_76
          have lt0_g_77 := (by decide : (1 : Int32).toInt = 1)
          refine lv_aload hx hb dX9_write_43 (lv_at hl 0 rfl) ?_
          refine lv_iload_n hx hb dX9_write_45 rfl (lv_at hl 3 rfl) ?_
          refine lv_lload_n hx hb dX9_write_46 rfl (lv_at hl 4 rfl) ?_
          have hFc := va_free (wc := [(s3, .inr (2, [.int wd3, .int rz3, .ref n3])), (n3, .inl (cJ3, 60, .inr (.inl g3)))]) hD hS hA [5, 9] rfl
          refine va_callv (va_runV (As := [.int a2, .long a3]) (rest := []) ⟨hx, hb, hml, hown, hts⟩ (kX3_put l dC dI s3 wd3 rz3 n3 cJ3 g3 a2 a3 (s.heap.size) (rg_w b_wd3 (by decide) (by decide)) b_rz3) (cwV 2 hts gX9_write__X3_put_V346 rfl rfl rfl hd_yX3_put ⟨lel 2 2 rfl, lel 45 45 rfl⟩) ⟨hw_fb, rcv_X3 hK hP (q0 := 5) rfl, (hw_use hP hD hK hN [5, 9] rfl (by decide) rfl [4] rfl)⟩ rfl rfl hl.1 rfl (lv_room (Nat.le_of_ble_eq_true rfl)) dX9_write_47 ⟨lel 0 0 rfl, lel 0 0 rfl⟩) hS (fun q _ h => hFc q h) hFc (fun u_79 t H1 locs ht hvm hw_r_78 hB hz1 hk1 hS => ?_)
          obtain ⟨o0_80, hP1, hK1, hD1⟩ := hB
          rw [ht] at hP1
          have hK1 := va_K.moved hvm.symm hK1
          obtain ⟨hP, hD⟩ := va_join (wr := [(h0, .inr (7, [.ref tp, .ref sc, .ref rd, .ref cu, .ref im, .ref ig, .ref sl, .ref se, .ref sm, .ref fc])), (sl, .inl (cS, 4, .inr (.inr (.inr (.inr (sf4 s0 s1 s2 s3)))))), (s0, .inr (2, [.int wd0, .int rz0, .ref n0])), (s1, .inr (2, [.int wd1, .int rz1, .ref n1])), (s2, .inr (2, [.int wd2, .int rz2, .ref n2])), (n0, .inl (cJ0, 60, .inr (.inl g0))), (n1, .inl (cJ1, 60, .inr (.inl g1))), (n2, .inl (cJ2, 60, .inr (.inl g2)))]) (w1 := [(s3, .inr (2, [.int wd3, .int rz3, .ref n3])), (n3, .inl (cJ3, 60, .inr (.inl o0_80)))]) hP hD [5, 9] [0, 1, 2, 3, 4, 6, 7, 8] rfl rfl (by decide) (by decide) hk1 hFc hP1 hD1
          have hK := (hK.sub (tys' := [(cS, .object RX3), (cJ0, .long), (cJ1, .long), (cJ2, .long)]) [0, 1, 2, 3] rfl).app hK1
          generalize H1 = H at hP hS ⊢
          have hP := hP.sub (ws' := [(h0, .inr (7, [.ref tp, .ref sc, .ref rd, .ref cu, .ref im, .ref ig, .ref sl, .ref se, .ref sm, .ref fc])), (sl, .inl (cS, 4, .inr (.inr (.inr (.inr (sf4 s0 s1 s2 s3)))))), (s0, .inr (2, [.int wd0, .int rz0, .ref n0])), (s1, .inr (2, [.int wd1, .int rz1, .ref n1])), (s2, .inr (2, [.int wd2, .int rz2, .ref n2])), (s3, .inr (2, [.int wd3, .int rz3, .ref n3])), (n0, .inl (cJ0, 60, .inr (.inl g0))), (n1, .inl (cJ1, 60, .inr (.inl g1))), (n2, .inl (cJ2, 60, .inr (.inl g2))), (n3, .inl (cJ3, 60, .inr (.inl o0_80)))]) [0, 1, 2, 3, 4, 8, 5, 6, 7, 9] rfl
          have hD := hD.sub (ws' := [(h0, .inr (7, [.ref tp, .ref sc, .ref rd, .ref cu, .ref im, .ref ig, .ref sl, .ref se, .ref sm, .ref fc])), (sl, .inl (cS, 4, .inr (.inr (.inr (.inr (sf4 s0 s1 s2 s3)))))), (s0, .inr (2, [.int wd0, .int rz0, .ref n0])), (s1, .inr (2, [.int wd1, .int rz1, .ref n1])), (s2, .inr (2, [.int wd2, .int rz2, .ref n2])), (s3, .inr (2, [.int wd3, .int rz3, .ref n3])), (n0, .inl (cJ0, 60, .inr (.inl g0))), (n1, .inl (cJ1, 60, .inr (.inl g1))), (n2, .inl (cJ2, 60, .inr (.inl g2))), (n3, .inl (cJ3, 60, .inr (.inl o0_80)))]) [0, 1, 2, 3, 4, 8, 5, 6, 7, 9] (by decide) rfl
          have hP : va_P (dC, dI) vwCl [(h0, .inr (7, [.ref tp, .ref sc, .ref rd, .ref cu, .ref im, .ref ig, .ref sl, .ref se, .ref sm, .ref fc])), (sl, .inl (cS, 4, .inr (.inr (.inr (.inr (sf4 s0 s1 s2 s3)))))), (s0, .inr (2, [.int wd0, .int rz0, .ref n0])), (s1, .inr (2, [.int wd1, .int rz1, .ref n1])), (s2, .inr (2, [.int wd2, .int rz2, .ref n2])), (s3, .inr (2, [.int wd3, .int rz3, .ref n3])), (n0, .inl (cJ0, 60, .inr (.inl g0))), (n1, .inl (cJ1, 60, .inr (.inl g1))), (n2, .inl (cJ2, 60, .inr (.inl g2))), (n3, .inl (cJ3, 60, .inr (.inl o0_80)))] H := hP
          have hD : va_D A [(h0, .inr (7, [.ref tp, .ref sc, .ref rd, .ref cu, .ref im, .ref ig, .ref sl, .ref se, .ref sm, .ref fc])), (sl, .inl (cS, 4, .inr (.inr (.inr (.inr (sf4 s0 s1 s2 s3)))))), (s0, .inr (2, [.int wd0, .int rz0, .ref n0])), (s1, .inr (2, [.int wd1, .int rz1, .ref n1])), (s2, .inr (2, [.int wd2, .int rz2, .ref n2])), (s3, .inr (2, [.int wd3, .int rz3, .ref n3])), (n0, .inl (cJ0, 60, .inr (.inl g0))), (n1, .inl (cJ1, 60, .inr (.inl g1))), (n2, .inl (cJ2, 60, .inr (.inl g2))), (n3, .inl (cJ3, 60, .inr (.inl o0_80)))] := hD
          have hK : va_K (dC, dI) vwCl [(cS, .object RX3), (cJ0, .long), (cJ1, .long), (cJ2, .long), (cJ3, .long)] s := hK
          refine lv_iconst (v := 0) hx hb dX9_write_50 (by decide) ?_
          have hP9 := hP.sub (ws' := [(h0, .inr (7, [.ref tp, .ref sc, .ref rd, .ref cu, .ref im, .ref ig, .ref sl, .ref se, .ref sm, .ref fc])), (sl, .inl (cS, 4, .inr (.inr (.inr (.inr (sf4 s0 s1 s2 s3)))))), (s0, .inr (2, [.int wd0, .int rz0, .ref n0])), (s1, .inr (2, [.int wd1, .int rz1, .ref n1])), (s2, .inr (2, [.int wd2, .int rz2, .ref n2])), (s3, .inr (2, [.int wd3, .int rz3, .ref n3])), (n0, .inl (cJ0, 60, .inr (.inl g0))), (n1, .inl (cJ1, 60, .inr (.inl g1))), (n2, .inl (cJ2, 60, .inr (.inl g2))), (n3, .inl (cJ3, 60, .inr (.inl o0_80)))]) [0, 1, 2, 3, 4, 5, 6, 7, 8, 9] rfl
          have hD9 := hD.sub (ws' := [(h0, .inr (7, [.ref tp, .ref sc, .ref rd, .ref cu, .ref im, .ref ig, .ref sl, .ref se, .ref sm, .ref fc])), (sl, .inl (cS, 4, .inr (.inr (.inr (.inr (sf4 s0 s1 s2 s3)))))), (s0, .inr (2, [.int wd0, .int rz0, .ref n0])), (s1, .inr (2, [.int wd1, .int rz1, .ref n1])), (s2, .inr (2, [.int wd2, .int rz2, .ref n2])), (s3, .inr (2, [.int wd3, .int rz3, .ref n3])), (n0, .inl (cJ0, 60, .inr (.inl g0))), (n1, .inl (cJ1, 60, .inr (.inl g1))), (n2, .inl (cJ2, 60, .inr (.inl g2))), (n3, .inl (cJ3, 60, .inr (.inl o0_80)))]) [0, 1, 2, 3, 4, 5, 6, 7, 8, 9] (by decide) rfl
          have hK9 := hK.sub (tys' := [(cS, .object RX3), (cJ0, .long), (cJ1, .long), (cJ2, .long), (cJ3, .long)]) [0, 1, 2, 3, 4] rfl
          exact W.iret (v := 0) hx hb hr (fun t ht hW => ⟨⟨0, (), rfl, (rg_w (by decide : (0 : Int) ≤ (0 : Int32).toInt ∧ (0 : Int32).toInt ≤ 0) (by decide) (by decide)), g0, g1, g2, o0_80, by rw [ht]; exact hP9, va_K.moved hW.alike hK9, hD9⟩, hS.F ht⟩) hS.2.2 dX9_write_51
        ·
          have n_c_76 : (r_75.toInt : Int) = 0 := c_eq rfl (by decide) c_76
          have b_r_75 : (0 : Int) ≤ r_75.toInt ∧ r_75.toInt ≤ 0 := r_eq1 b_r_75 (by decide : (0 : Int) ≤ (0 : Int32).toInt ∧ (0 : Int32).toInt ≤ 0) n_c_76 (by decide)
          refine lv_bipush (v := (-7)) hx hb dX9_write_40 (by decide) ?_
          have hP9 := hP.sub (ws' := [(h0, .inr (7, [.ref tp, .ref sc, .ref rd, .ref cu, .ref im, .ref ig, .ref sl, .ref se, .ref sm, .ref fc])), (sl, .inl (cS, 4, .inr (.inr (.inr (.inr (sf4 s0 s1 s2 s3)))))), (s0, .inr (2, [.int wd0, .int rz0, .ref n0])), (s1, .inr (2, [.int wd1, .int rz1, .ref n1])), (s2, .inr (2, [.int wd2, .int rz2, .ref n2])), (s3, .inr (2, [.int wd3, .int rz3, .ref n3])), (n0, .inl (cJ0, 60, .inr (.inl g0))), (n1, .inl (cJ1, 60, .inr (.inl g1))), (n2, .inl (cJ2, 60, .inr (.inl g2))), (n3, .inl (cJ3, 60, .inr (.inl g3)))]) [0, 1, 2, 3, 4, 5, 6, 7, 8, 9] rfl
          have hD9 := hD.sub (ws' := [(h0, .inr (7, [.ref tp, .ref sc, .ref rd, .ref cu, .ref im, .ref ig, .ref sl, .ref se, .ref sm, .ref fc])), (sl, .inl (cS, 4, .inr (.inr (.inr (.inr (sf4 s0 s1 s2 s3)))))), (s0, .inr (2, [.int wd0, .int rz0, .ref n0])), (s1, .inr (2, [.int wd1, .int rz1, .ref n1])), (s2, .inr (2, [.int wd2, .int rz2, .ref n2])), (s3, .inr (2, [.int wd3, .int rz3, .ref n3])), (n0, .inl (cJ0, 60, .inr (.inl g0))), (n1, .inl (cJ1, 60, .inr (.inl g1))), (n2, .inl (cJ2, 60, .inr (.inl g2))), (n3, .inl (cJ3, 60, .inr (.inl g3)))]) [0, 1, 2, 3, 4, 5, 6, 7, 8, 9] (by decide) rfl
          have hK9 := hK.sub (tys' := [(cS, .object RX3), (cJ0, .long), (cJ1, .long), (cJ2, .long), (cJ3, .long)]) [0, 1, 2, 3, 4] rfl
          exact W.iret (v := (-7)) hx hb hr (fun t ht hW => ⟨⟨(-7), (), rfl, (rg_w (by decide : (-7 : Int) ≤ ((-7) : Int32).toInt ∧ ((-7) : Int32).toInt ≤ -7) (by decide) (by decide)), g0, g1, g2, g3, by rw [ht]; exact hP9, va_K.moved hW.alike hK9, hD9⟩, hS.F ht⟩) hS.2.2 dX9_write_42
      ·
        have n_c_73 : (r_72.toInt : Int) = 0 := c_eq rfl (by decide) c_73
        have b_r_72 : (0 : Int) ≤ r_72.toInt ∧ r_72.toInt ≤ 0 := r_eq1 b_r_72 (by decide : (0 : Int) ≤ (0 : Int32).toInt ∧ (0 : Int32).toInt ≤ 0) n_c_73 (by decide)
        refine lv_bipush (v := (-6)) hx hb dX9_write_27 (by decide) ?_
        have hP9 := hP.sub (ws' := [(h0, .inr (7, [.ref tp, .ref sc, .ref rd, .ref cu, .ref im, .ref ig, .ref sl, .ref se, .ref sm, .ref fc])), (sl, .inl (cS, 4, .inr (.inr (.inr (.inr (sf4 s0 s1 s2 s3)))))), (s0, .inr (2, [.int wd0, .int rz0, .ref n0])), (s1, .inr (2, [.int wd1, .int rz1, .ref n1])), (s2, .inr (2, [.int wd2, .int rz2, .ref n2])), (s3, .inr (2, [.int wd3, .int rz3, .ref n3])), (n0, .inl (cJ0, 60, .inr (.inl g0))), (n1, .inl (cJ1, 60, .inr (.inl g1))), (n2, .inl (cJ2, 60, .inr (.inl g2))), (n3, .inl (cJ3, 60, .inr (.inl g3)))]) [0, 1, 2, 3, 4, 5, 6, 7, 8, 9] rfl
        have hD9 := hD.sub (ws' := [(h0, .inr (7, [.ref tp, .ref sc, .ref rd, .ref cu, .ref im, .ref ig, .ref sl, .ref se, .ref sm, .ref fc])), (sl, .inl (cS, 4, .inr (.inr (.inr (.inr (sf4 s0 s1 s2 s3)))))), (s0, .inr (2, [.int wd0, .int rz0, .ref n0])), (s1, .inr (2, [.int wd1, .int rz1, .ref n1])), (s2, .inr (2, [.int wd2, .int rz2, .ref n2])), (s3, .inr (2, [.int wd3, .int rz3, .ref n3])), (n0, .inl (cJ0, 60, .inr (.inl g0))), (n1, .inl (cJ1, 60, .inr (.inl g1))), (n2, .inl (cJ2, 60, .inr (.inl g2))), (n3, .inl (cJ3, 60, .inr (.inl g3)))]) [0, 1, 2, 3, 4, 5, 6, 7, 8, 9] (by decide) rfl
        have hK9 := hK.sub (tys' := [(cS, .object RX3), (cJ0, .long), (cJ1, .long), (cJ2, .long), (cJ3, .long)]) [0, 1, 2, 3, 4] rfl
        exact W.iret (v := (-6)) hx hb hr (fun t ht hW => ⟨⟨(-6), (), rfl, (rg_w (by decide : (-6 : Int) ≤ ((-6) : Int32).toInt ∧ ((-6) : Int32).toInt ≤ -6) (by decide) (by decide)), g0, g1, g2, g3, by rw [ht]; exact hP9, va_K.moved hW.alike hK9, hD9⟩, hS.F ht⟩) hS.2.2 dX9_write_29
  ·
    have n_c_42 : (r_41.toInt : Int) = 0 := c_eq rfl (by decide) c_42
    have b_r_41 : (0 : Int) ≤ r_41.toInt ∧ r_41.toInt ≤ 0 := r_eq1 b_r_41 (by decide : (0 : Int) ≤ (0 : Int32).toInt ∧ (0 : Int32).toInt ≤ 0) n_c_42 (by decide)
    refine lv_bipush (v := (-2)) hx hb dX9_write_8 (by decide) ?_
    have hP9 := hP.sub (ws' := [(h0, .inr (7, [.ref tp, .ref sc, .ref rd, .ref cu, .ref im, .ref ig, .ref sl, .ref se, .ref sm, .ref fc])), (sl, .inl (cS, 4, .inr (.inr (.inr (.inr (sf4 s0 s1 s2 s3)))))), (s0, .inr (2, [.int wd0, .int rz0, .ref n0])), (s1, .inr (2, [.int wd1, .int rz1, .ref n1])), (s2, .inr (2, [.int wd2, .int rz2, .ref n2])), (s3, .inr (2, [.int wd3, .int rz3, .ref n3])), (n0, .inl (cJ0, 60, .inr (.inl g0))), (n1, .inl (cJ1, 60, .inr (.inl g1))), (n2, .inl (cJ2, 60, .inr (.inl g2))), (n3, .inl (cJ3, 60, .inr (.inl g3)))]) [0, 1, 2, 3, 4, 5, 6, 7, 8, 9] rfl
    have hD9 := hD.sub (ws' := [(h0, .inr (7, [.ref tp, .ref sc, .ref rd, .ref cu, .ref im, .ref ig, .ref sl, .ref se, .ref sm, .ref fc])), (sl, .inl (cS, 4, .inr (.inr (.inr (.inr (sf4 s0 s1 s2 s3)))))), (s0, .inr (2, [.int wd0, .int rz0, .ref n0])), (s1, .inr (2, [.int wd1, .int rz1, .ref n1])), (s2, .inr (2, [.int wd2, .int rz2, .ref n2])), (s3, .inr (2, [.int wd3, .int rz3, .ref n3])), (n0, .inl (cJ0, 60, .inr (.inl g0))), (n1, .inl (cJ1, 60, .inr (.inl g1))), (n2, .inl (cJ2, 60, .inr (.inl g2))), (n3, .inl (cJ3, 60, .inr (.inl g3)))]) [0, 1, 2, 3, 4, 5, 6, 7, 8, 9] (by decide) rfl
    have hK9 := hK.sub (tys' := [(cS, .object RX3), (cJ0, .long), (cJ1, .long), (cJ2, .long), (cJ3, .long)]) [0, 1, 2, 3, 4] rfl
    exact W.iret (v := (-2)) hx hb hr (fun t ht hW => ⟨⟨(-2), (), rfl, (rg_w (by decide : (-2 : Int) ≤ ((-2) : Int32).toInt ∧ ((-2) : Int32).toInt ≤ -2) (by decide) (by decide)), g0, g1, g2, g3, by rw [ht]; exact hP9, va_K.moved hW.alike hK9, hD9⟩, hS.F ht⟩) hS.2.2 dX9_write_10
theorem dX3_take_0 : decode cX3_take 0 = .ok (.aload_n 0, 1) := by decide +kernel
theorem dX3_take_1 : decode cX3_take 1 = .ok (.iload_n 1, 1) := by decide +kernel
theorem dX3_take_2 : decode cX3_take 2 = .ok (.iload 4, 2) := by decide +kernel
theorem dX3_take_4 : decode cX3_take 4 = .ok (.invokevirtual 34, 3) := by decide +kernel
theorem dX3_take_7 : decode cX3_take 7 = .ok (.ifCond .eq 28, 3) := by decide +kernel
theorem dX3_take_10 : decode cX3_take 10 = .ok (.aload_n 2, 1) := by decide +kernel
theorem dX3_take_11 : decode cX3_take 11 = .ok (.iload_n 3, 1) := by decide +kernel
theorem dX3_take_12 : decode cX3_take 12 = .ok (.iload 4, 2) := by decide +kernel
theorem dX3_take_14 : decode cX3_take 14 = .ok (.invokevirtual 34, 3) := by decide +kernel
theorem dX3_take_17 : decode cX3_take 17 = .ok (.ifCond .eq 18, 3) := by decide +kernel
theorem dX3_take_20 : decode cX3_take 20 = .ok (.aload_n 2, 1) := by decide +kernel
theorem dX3_take_21 : decode cX3_take 21 = .ok (.getfield 15, 3) := by decide +kernel
theorem dX3_take_24 : decode cX3_take 24 = .ok (.iload_n 3, 1) := by decide +kernel
theorem dX3_take_25 : decode cX3_take 25 = .ok (.aload_n 0, 1) := by decide +kernel
theorem dX3_take_26 : decode cX3_take 26 = .ok (.getfield 15, 3) := by decide +kernel
theorem dX3_take_29 : decode cX3_take 29 = .ok (.iload_n 1, 1) := by decide +kernel
theorem dX3_take_30 : decode cX3_take 30 = .ok (.iload 4, 2) := by decide +kernel
theorem dX3_take_32 : decode cX3_take 32 = .ok (.invokestatic 38, 3) := by decide +kernel
theorem dX3_take_35 : decode cX3_take 35 = .ok (.return_, 1) := by decide +kernel
theorem hd_yX3_take : yX3_take.cls = RX3 ∧ yX3_take.cls ≠ "java/lang/invoke/MethodHandle" ∧ yX3_take.cls ≠ "java/lang/invoke/VarHandle" ∧ (parseMethodDescriptor yX3_take.desc).map (fun d => d.parameters.length) = some 4 := by decide +kernel
def uX3_take : List Cond := List.cons (.code yX3_take cX3_take 5 none) (HAppend.hAppend ([.methodLink RX3 34 yX3_hasStretch, .instanceMethod yX3_hasStretch, .selects RX3 yX3_hasStretch yX3_hasStretch, .initialized RX3, .fieldLink RX3 15 "LuckyTicket$Row" "numbers" "[J", .methodLink RX3 38 arraycopyName, .native arraycopyName, .static arraycopyName, .initialized RJ10] : List Cond) (HAppend.hAppend uX3_hasStretch wsX30))
theorem iX3_take_X3 : ∀ w ∈ wsX30, w ∈ uX3_take := fun _ h => (List.mem_cons_of_mem _ (List.mem_append_right _ (List.mem_append_right _ h)))
theorem guX3_take : GU uX3_take := gu_cons (gu_app (by decide +kernel) (gu_ap guX3_hasStretch gws_X3))
theorem gX3_take__X3_hasStretch_V34 : GoodIn uX3_take (wsV RX3 34 RX3 yX3_hasStretch uX3_hasStretch) := gin_V (List.mem_of_getElem? (i := 1) rfl) (List.mem_of_getElem? (i := 2) rfl) (List.mem_of_getElem? (i := 3) rfl) (List.mem_of_getElem? (i := 4) rfl) (fun _ h => (List.mem_cons_of_mem _ (List.mem_append_right _ (List.mem_append_left _ h)))) guX3_hasStretch
set_option maxHeartbeats 4000000 in
set_option maxRecDepth 100000 in
theorem kX3_take (l : Launch) (dC : Nat → ClassId) (dI : Nat → Nat → Nat) (rw : Nat) (wd : Int32) (rz : Int32) (nu : Nat) (cN : ClassId) (fn : Nat → Int64) (rf : Nat) (wf : Int32) (zf_ : Int32) (nf_ : Nat) (cM : ClassId) (fm : Nat → Int64) (a1 : Int32) (a2 : Int32) (a3 : Int32) (sz : Nat) (b_wd : (-1 : Int) ≤ wd.toInt ∧ wd.toInt ≤ 3) (b_rz : (0 : Int) ≤ rz.toInt ∧ rz.toInt ≤ 60) (b_wf : (-1 : Int) ≤ wf.toInt ∧ wf.toInt ≤ 3) (b_zf_ : (0 : Int) ≤ zf_.toInt ∧ zf_.toInt ≤ 60) : Met l yX3_take uX3_take ({ frames := 1, cells := 0, slots := 0, locals := 64 }) (va_Pc [.ref rw, .int a1, .ref rf, .int a2, .int a3] (hw (dC, dI) vwCl [(rw, .inr (2, [.int wd, .int rz, .ref nu])), (nu, .inl (cN, 60, .inr (.inl fn))), (rf, .inr (2, [.int wf, .int zf_, .ref nf_])), (nf_, .inl (cM, 60, .inr (.inl fm)))] [(cN, .long), (cM, .long)] sz)) (va_Qv (fun (_ : Unit) => True) (fun (_ : Unit) t => ∃ (o0_ : Nat → Int64), va_P (dC, dI) vwCl [(rw, .inr (2, [.int wd, .int rz, .ref nu])), (nu, .inl (cN, 60, .inr (.inl o0_))), (rf, .inr (2, [.int wf, .int zf_, .ref nf_])), (nf_, .inl (cM, 60, .inr (.inl fm)))] t.heap ∧ va_K (dC, dI) vwCl [(cN, .long), (cM, .long)] t ∧ va_D (va_A [(rw, .inr (2, [.int wd, .int rz, .ref nu])), (nu, .inl (cN, 60, .inr (.inl fn))), (rf, .inr (2, [.int wf, .int zf_, .ref nf_])), (nf_, .inl (cM, 60, .inr (.inl fm)))] sz) [(rw, .inr (2, [.int wd, .int rz, .ref nu])), (nu, .inl (cN, 60, .inr (.inl o0_))), (rf, .inr (2, [.int wf, .int zf_, .ref nf_])), (nf_, .inl (cM, 60, .inr (.inl fm)))]) (va_A [(rw, .inr (2, [.int wd, .int rz, .ref nu])), (nu, .inl (cN, 60, .inr (.inl fn))), (rf, .inr (2, [.int wf, .int zf_, .ref nf_])), (nf_, .inl (cM, 60, .inr (.inl fm)))] sz)) 0 0 (va_A [(rw, .inr (2, [.int wd, .int rz, .ref nu])), (nu, .inl (cN, 60, .inr (.inl fn))), (rf, .inr (2, [.int wf, .int zf_, .ref nf_])), (nf_, .inl (cM, 60, .inr (.inl fm)))] sz) := by
  refine Met.ofW (cc := cX3_take) (maxL := 5) (ret := none) pn_X3 rfl ?_
  intro p e s m args below meth c s₁ B hml hv
  obtain ⟨rfl, hsz, hP, hK, hD0, hN⟩ := hv
  have hx := B.exec
  have hb := B.bytes
  have hr := B.returns
  have hts := atoms_spec (ws := uX3_take) B.pre
  have hown : s.vm.findClass RX3 = some m.cls := hown_of B.named rfl
  have hlocks := B.notSynchronized
  subst hsz
  have hD := hD0.self (sz := s.heap.size)
  generalize hAe : va_A [(rw, .inr (2, [.int wd, .int rz, .ref nu])), (nu, .inl (cN, 60, .inr (.inl fn))), (rf, .inr (2, [.int wf, .int zf_, .ref nf_])), (nf_, .inl (cM, 60, .inr (.inl fm)))] s.heap.size = A at hD ⊢
  have hA : ∀ q : Nat, s.heap.size ≤ q → A q := fun q h => by rw [← hAe]; exact Or.inr h
  have hS : va_S A s.heap s.heap [] := va_S.rf
  have hP : va_P (dC, dI) vwCl [(rw, .inr (2, [.int wd, .int rz, .ref nu])), (nu, .inl (cN, 60, .inr (.inl fn))), (rf, .inr (2, [.int wf, .int zf_, .ref nf_])), (nf_, .inl (cM, 60, .inr (.inl fm)))] s.heap := hP
  have hl := lv_entry ([.ref rw, .int a1, .ref rf, .int a2, .int a3]) (n := 5) (Nat.le_of_ble_eq_true rfl)
  rw [lg_entry_eq]
  generalize (lg_sl ([.ref rw, .int a1, .ref rf, .int a2, .int a3]) ++ List.replicate (5 - (lg_sl ([.ref rw, .int a1, .ref rf, .int a2, .int a3])).length) Slot.unset).toArray = ls at hl ⊢
  have hl : lv_has ls 5 [(0, .ref rw), (1, .int a1), (2, .ref rf), (3, .int a2), (4, .int a3)] := hl
  refine lv_aload_n hx hb dX3_take_0 rfl (lv_at hl 0 rfl) ?_
  refine lv_iload_n hx hb dX3_take_1 rfl (lv_at hl 1 rfl) ?_
  refine lv_iload hx hb dX3_take_2 (lv_at hl 4 rfl) ?_
  refine vp_callSi (W.runV (As := [.int a1, .int a3]) (rest := []) ⟨hx, hb, hml, hown, hts⟩ (kX3_hasStretch l dC dI rw wd rz nu a1 a3 b_wd b_rz) (cwV 2 hts gX3_take__X3_hasStretch_V34 rfl rfl rfl hd_yX3_hasStretch ⟨lel 1 1 rfl, lel 22 64 rfl⟩) ⟨pw_fb, rcv_X3 hK hP (q0 := 0) rfl, (pw_use hP hK hN [0] rfl [] rfl)⟩ rfl rfl hl.1 rfl (lv_room (Nat.le_of_ble_eq_true rfl)) dX3_take_4 ⟨lel 0 0 rfl, lel 0 0 rfl⟩) (fun r_8 h_r_8 => ?_)
  obtain ⟨b_r_8, nz_r_8⟩ := h_r_8
  have b_r_8 : (0 : Int) ≤ r_8.toInt ∧ r_8.toInt ≤ 1 := b_r_8
  refine lv_if_eq (tgt := 35) hx hb dX3_take_7 (by decide) (fun c_9 => ?_) (fun c_9 => ?_)
  ·
    have n_c_9 : (r_8.toInt : Int) = 0 := c_eq rfl (by decide) c_9
    have b_r_8 : (0 : Int) ≤ r_8.toInt ∧ r_8.toInt ≤ 0 := r_eq1 b_r_8 (by decide : (0 : Int) ≤ (0 : Int32).toInt ∧ (0 : Int32).toInt ≤ 0) n_c_9 (by decide)
    have hP9 := hP.sub (ws' := [(rw, .inr (2, [.int wd, .int rz, .ref nu])), (nu, .inl (cN, 60, .inr (.inl fn))), (rf, .inr (2, [.int wf, .int zf_, .ref nf_])), (nf_, .inl (cM, 60, .inr (.inl fm)))]) [0, 1, 2, 3] rfl
    have hD9 := hD.sub (ws' := [(rw, .inr (2, [.int wd, .int rz, .ref nu])), (nu, .inl (cN, 60, .inr (.inl fn))), (rf, .inr (2, [.int wf, .int zf_, .ref nf_])), (nf_, .inl (cM, 60, .inr (.inl fm)))]) [0, 1, 2, 3] (by decide) rfl
    have hK9 := hK.sub (tys' := [(cN, .long), (cM, .long)]) [0, 1] rfl
    exact W.vret hx hb hr (fun t ht hW => ⟨⟨(), rfl, trivial, fn, by rw [ht]; exact hP9, va_K.moved hW.alike hK9, hD9⟩, hS.F ht⟩) hS.2.2 dX3_take_35
  ·
    have n_c_9 : (r_8.toInt : Int) ≠ 0 := c_ne rfl (by decide) c_9
    have b_r_8 : (1 : Int) ≤ r_8.toInt ∧ r_8.toInt ≤ 1 := r_ne1 b_r_8 (by decide : (0 : Int) ≤ (0 : Int32).toInt ∧ (0 : Int32).toInt ≤ 0) n_c_9 (by decide)
    obtain ⟨b_a1, b_a3, g_10⟩ := nz_r_8 c_9
    refine lv_aload_n hx hb dX3_take_10 rfl (lv_at hl 2 rfl) ?_
    refine lv_iload_n hx hb dX3_take_11 rfl (lv_at hl 3 rfl) ?_
    refine lv_iload hx hb dX3_take_12 (lv_at hl 4 rfl) ?_
    refine vp_callSi (W.runV (As := [.int a2, .int a3]) (rest := []) ⟨hx, hb, hml, hown, hts⟩ (kX3_hasStretch l dC dI rf wf zf_ nf_ a2 a3 b_wf b_zf_) (cwV 2 hts gX3_take__X3_hasStretch_V34 rfl rfl rfl hd_yX3_hasStretch ⟨lel 1 1 rfl, lel 22 64 rfl⟩) ⟨pw_fb, rcv_X3 hK hP (q0 := 2) rfl, (pw_use hP hK hN [2] rfl [] rfl)⟩ rfl rfl hl.1 rfl (lv_room (Nat.le_of_ble_eq_true rfl)) dX3_take_14 ⟨lel 0 0 rfl, lel 0 0 rfl⟩) (fun r_11 h_r_11 => ?_)
    obtain ⟨b_r_11, nz_r_11⟩ := h_r_11
    have b_r_11 : (0 : Int) ≤ r_11.toInt ∧ r_11.toInt ≤ 1 := b_r_11
    refine lv_if_eq (tgt := 35) hx hb dX3_take_17 (by decide) (fun c_12 => ?_) (fun c_12 => ?_)
    ·
      have n_c_12 : (r_11.toInt : Int) = 0 := c_eq rfl (by decide) c_12
      have b_r_11 : (0 : Int) ≤ r_11.toInt ∧ r_11.toInt ≤ 0 := r_eq1 b_r_11 (by decide : (0 : Int) ≤ (0 : Int32).toInt ∧ (0 : Int32).toInt ≤ 0) n_c_12 (by decide)
      have hP9 := hP.sub (ws' := [(rw, .inr (2, [.int wd, .int rz, .ref nu])), (nu, .inl (cN, 60, .inr (.inl fn))), (rf, .inr (2, [.int wf, .int zf_, .ref nf_])), (nf_, .inl (cM, 60, .inr (.inl fm)))]) [0, 1, 2, 3] rfl
      have hD9 := hD.sub (ws' := [(rw, .inr (2, [.int wd, .int rz, .ref nu])), (nu, .inl (cN, 60, .inr (.inl fn))), (rf, .inr (2, [.int wf, .int zf_, .ref nf_])), (nf_, .inl (cM, 60, .inr (.inl fm)))]) [0, 1, 2, 3] (by decide) rfl
      have hK9 := hK.sub (tys' := [(cN, .long), (cM, .long)]) [0, 1] rfl
      exact W.vret hx hb hr (fun t ht hW => ⟨⟨(), rfl, trivial, fn, by rw [ht]; exact hP9, va_K.moved hW.alike hK9, hD9⟩, hS.F ht⟩) hS.2.2 dX3_take_35
    ·
      have n_c_12 : (r_11.toInt : Int) ≠ 0 := c_ne rfl (by decide) c_12
      have b_r_11 : (1 : Int) ≤ r_11.toInt ∧ r_11.toInt ≤ 1 := r_ne1 b_r_11 (by decide : (0 : Int) ≤ (0 : Int32).toInt ∧ (0 : Int32).toInt ≤ 0) n_c_12 (by decide)
      obtain ⟨b_a2, b_a3, g_13⟩ := nz_r_11 c_12
      refine lv_aload_n hx hb dX3_take_20 rfl (lv_at hl 2 rfl) ?_
      refine va_get (D := (dC, dI)) (ci := 2) (v := .ref nf_) (C := RX3) (T := TX3) (N := 3) hx hb hts iX3_take_X3 hown hK hP 2 rfl rfl 2 (by decide) (hts (.fieldLink RX3 15 "LuckyTicket$Row" "numbers" "[J") (List.mem_of_getElem? (i := 5) rfl)) (fun _ h9 => h9) rfl dX3_take_21 ?_
      refine lv_iload_n hx hb dX3_take_24 rfl (lv_at hl 3 rfl) ?_
      refine lv_aload_n hx hb dX3_take_25 rfl (lv_at hl 0 rfl) ?_
      refine va_get (D := (dC, dI)) (ci := 2) (v := .ref nu) (C := RX3) (T := TX3) (N := 3) hx hb hts iX3_take_X3 hown hK hP 0 rfl rfl 2 (by decide) (hts (.fieldLink RX3 15 "LuckyTicket$Row" "numbers" "[J") (List.mem_of_getElem? (i := 5) rfl)) (fun _ h9 => h9) rfl dX3_take_26 ?_
      refine lv_iload_n hx hb dX3_take_29 rfl (lv_at hl 1 rfl) ?_
      refine lv_iload hx hb dX3_take_30 (lv_at hl 4 rfl) ?_
      refine va_copyl (ty := .long) hx hb (hml.trans hl.1.symm) hown (hts (.methodLink RX3 38 arraycopyName) (List.mem_of_getElem? (i := 6) rfl)) (hts (.native arraycopyName) (List.mem_of_getElem? (i := 7) rfl)) (hts (.static arraycopyName) (List.mem_of_getElem? (i := 8) rfl)) (hts (.initialized RJ10) (List.mem_of_getElem? (i := 9) rfl)) hK hP hD hS 3 1 1 0 rfl rfl rfl rfl rfl (ti_nn (by have q := b_a2; omega)) (ti_nn (by have q := b_a1; omega)) (ti_nn (by have q := b_a3; omega)) (cp_le (by have q := b_a2; omega) (by have q := b_a3; omega) (by have q1 := b_a2; have q2 := b_a3; omega)) (cp_le (by have q := b_a1; omega) (by have q := b_a3; omega) (by have q1 := b_a1; have q2 := b_a3; omega)) (fun _ _ => rfl) (lel 1 1 rfl) (Nat.le_of_ble_eq_true rfl) dX3_take_32 (fun H locs hP hD hS => ?_)
      have hP : va_P (dC, dI) vwCl [(rw, .inr (2, [.int wd, .int rz, .ref nu])), (nu, .inl (cN, 60, .inr (.inl (va_cpy fm fn (a2 : Int32).toNatClampNeg (a1 : Int32).toNatClampNeg (a3 : Int32).toNatClampNeg)))), (rf, .inr (2, [.int wf, .int zf_, .ref nf_])), (nf_, .inl (cM, 60, .inr (.inl fm)))] H := hP
      have hD : va_D A [(rw, .inr (2, [.int wd, .int rz, .ref nu])), (nu, .inl (cN, 60, .inr (.inl (va_cpy fm fn (a2 : Int32).toNatClampNeg (a1 : Int32).toNatClampNeg (a3 : Int32).toNatClampNeg)))), (rf, .inr (2, [.int wf, .int zf_, .ref nf_])), (nf_, .inl (cM, 60, .inr (.inl fm)))] := hD
      generalize (va_cpy fm fn (a2 : Int32).toNatClampNeg (a1 : Int32).toNatClampNeg (a3 : Int32).toNatClampNeg) = f_14 at hP hD
      have hP : va_P (dC, dI) vwCl [(rw, .inr (2, [.int wd, .int rz, .ref nu])), (nu, .inl (cN, 60, .inr (.inl f_14))), (rf, .inr (2, [.int wf, .int zf_, .ref nf_])), (nf_, .inl (cM, 60, .inr (.inl fm)))] H := hP
      have hD : va_D A [(rw, .inr (2, [.int wd, .int rz, .ref nu])), (nu, .inl (cN, 60, .inr (.inl f_14))), (rf, .inr (2, [.int wf, .int zf_, .ref nf_])), (nf_, .inl (cM, 60, .inr (.inl fm)))] := hD
      have hP9 := hP.sub (ws' := [(rw, .inr (2, [.int wd, .int rz, .ref nu])), (nu, .inl (cN, 60, .inr (.inl f_14))), (rf, .inr (2, [.int wf, .int zf_, .ref nf_])), (nf_, .inl (cM, 60, .inr (.inl fm)))]) [0, 1, 2, 3] rfl
      have hD9 := hD.sub (ws' := [(rw, .inr (2, [.int wd, .int rz, .ref nu])), (nu, .inl (cN, 60, .inr (.inl f_14))), (rf, .inr (2, [.int wf, .int zf_, .ref nf_])), (nf_, .inl (cM, 60, .inr (.inl fm)))]) [0, 1, 2, 3] (by decide) rfl
      have hK9 := hK.sub (tys' := [(cN, .long), (cM, .long)]) [0, 1] rfl
      exact W.vret hx hb hr (fun t ht hW => ⟨⟨(), rfl, trivial, f_14, by rw [ht]; exact hP9, va_K.moved hW.alike hK9, hD9⟩, hS.F ht⟩) hS.2.2 dX3_take_35
def uX3_takeS : List Cond := List.cons (.code yX3_take cX3_take 5 none) (HAppend.hAppend ([.methodLink RX3 34 yX3_hasStretch, .instanceMethod yX3_hasStretch, .selects RX3 yX3_hasStretch yX3_hasStretch, .initialized RX3, .fieldLink RX3 15 "LuckyTicket$Row" "numbers" "[J", .methodLink RX3 38 arraycopyName, .native arraycopyName, .static arraycopyName, .initialized RJ10] : List Cond) (HAppend.hAppend uX3_hasStretch wsX30))
theorem iX3_takeS_X3 : ∀ w ∈ wsX30, w ∈ uX3_takeS := fun _ h => (List.mem_cons_of_mem _ (List.mem_append_right _ (List.mem_append_right _ h)))
theorem guX3_takeS : GU uX3_takeS := gu_cons (gu_app (by decide +kernel) (gu_ap guX3_hasStretch gws_X3))
theorem gX3_takeS__X3_hasStretch_V34 : GoodIn uX3_takeS (wsV RX3 34 RX3 yX3_hasStretch uX3_hasStretch) := gin_V (List.mem_of_getElem? (i := 1) rfl) (List.mem_of_getElem? (i := 2) rfl) (List.mem_of_getElem? (i := 3) rfl) (List.mem_of_getElem? (i := 4) rfl) (fun _ h => (List.mem_cons_of_mem _ (List.mem_append_right _ (List.mem_append_left _ h)))) guX3_hasStretch
set_option maxHeartbeats 4000000 in
set_option maxRecDepth 100000 in
theorem kX3_takeS (l : Launch) (dC : Nat → ClassId) (dI : Nat → Nat → Nat) (rw : Nat) (wd : Int32) (rz : Int32) (nu : Nat) (cN : ClassId) (fn : Nat → Int64) (a1 : Int32) (a2 : Int32) (a3 : Int32) (sz : Nat) (b_wd : (-1 : Int) ≤ wd.toInt ∧ wd.toInt ≤ 3) (b_rz : (0 : Int) ≤ rz.toInt ∧ rz.toInt ≤ 60) : Met l yX3_take uX3_takeS ({ frames := 1, cells := 0, slots := 0, locals := 64 }) (va_Pc [.ref rw, .int a1, .ref rw, .int a2, .int a3] (hw (dC, dI) vwCl [(rw, .inr (2, [.int wd, .int rz, .ref nu])), (nu, .inl (cN, 60, .inr (.inl fn)))] [(cN, .long)] sz)) (va_Qv (fun (_ : Unit) => True) (fun (_ : Unit) t => ∃ (o0_ : Nat → Int64), va_P (dC, dI) vwCl [(rw, .inr (2, [.int wd, .int rz, .ref nu])), (nu, .inl (cN, 60, .inr (.inl o0_)))] t.heap ∧ va_K (dC, dI) vwCl [(cN, .long)] t ∧ va_D (va_A [(rw, .inr (2, [.int wd, .int rz, .ref nu])), (nu, .inl (cN, 60, .inr (.inl fn)))] sz) [(rw, .inr (2, [.int wd, .int rz, .ref nu])), (nu, .inl (cN, 60, .inr (.inl o0_)))]) (va_A [(rw, .inr (2, [.int wd, .int rz, .ref nu])), (nu, .inl (cN, 60, .inr (.inl fn)))] sz)) 0 0 (va_A [(rw, .inr (2, [.int wd, .int rz, .ref nu])), (nu, .inl (cN, 60, .inr (.inl fn)))] sz) := by
  refine Met.ofW (cc := cX3_take) (maxL := 5) (ret := none) pn_X3 rfl ?_
  intro p e s m args below meth c s₁ B hml hv
  obtain ⟨rfl, hsz, hP, hK, hD0, hN⟩ := hv
  have hx := B.exec
  have hb := B.bytes
  have hr := B.returns
  have hts := atoms_spec (ws := uX3_takeS) B.pre
  have hown : s.vm.findClass RX3 = some m.cls := hown_of B.named rfl
  have hlocks := B.notSynchronized
  subst hsz
  have hD := hD0.self (sz := s.heap.size)
  generalize hAe : va_A [(rw, .inr (2, [.int wd, .int rz, .ref nu])), (nu, .inl (cN, 60, .inr (.inl fn)))] s.heap.size = A at hD ⊢
  have hA : ∀ q : Nat, s.heap.size ≤ q → A q := fun q h => by rw [← hAe]; exact Or.inr h
  have hS : va_S A s.heap s.heap [] := va_S.rf
  have hP : va_P (dC, dI) vwCl [(rw, .inr (2, [.int wd, .int rz, .ref nu])), (nu, .inl (cN, 60, .inr (.inl fn)))] s.heap := hP
  have hl := lv_entry ([.ref rw, .int a1, .ref rw, .int a2, .int a3]) (n := 5) (Nat.le_of_ble_eq_true rfl)
  rw [lg_entry_eq]
  generalize (lg_sl ([.ref rw, .int a1, .ref rw, .int a2, .int a3]) ++ List.replicate (5 - (lg_sl ([.ref rw, .int a1, .ref rw, .int a2, .int a3])).length) Slot.unset).toArray = ls at hl ⊢
  have hl : lv_has ls 5 [(0, .ref rw), (1, .int a1), (2, .ref rw), (3, .int a2), (4, .int a3)] := hl
  refine lv_aload_n hx hb dX3_take_0 rfl (lv_at hl 0 rfl) ?_
  refine lv_iload_n hx hb dX3_take_1 rfl (lv_at hl 1 rfl) ?_
  refine lv_iload hx hb dX3_take_2 (lv_at hl 4 rfl) ?_
  refine vp_callSi (W.runV (As := [.int a1, .int a3]) (rest := []) ⟨hx, hb, hml, hown, hts⟩ (kX3_hasStretch l dC dI rw wd rz nu a1 a3 b_wd b_rz) (cwV 2 hts gX3_takeS__X3_hasStretch_V34 rfl rfl rfl hd_yX3_hasStretch ⟨lel 1 1 rfl, lel 22 64 rfl⟩) ⟨pw_fb, rcv_X3 hK hP (q0 := 0) rfl, (pw_use hP hK hN [0] rfl [] rfl)⟩ rfl rfl hl.1 rfl (lv_room (Nat.le_of_ble_eq_true rfl)) dX3_take_4 ⟨lel 0 0 rfl, lel 0 0 rfl⟩) (fun r_8 h_r_8 => ?_)
  obtain ⟨b_r_8, nz_r_8⟩ := h_r_8
  have b_r_8 : (0 : Int) ≤ r_8.toInt ∧ r_8.toInt ≤ 1 := b_r_8
  refine lv_if_eq (tgt := 35) hx hb dX3_take_7 (by decide) (fun c_9 => ?_) (fun c_9 => ?_)
  ·
    have n_c_9 : (r_8.toInt : Int) = 0 := c_eq rfl (by decide) c_9
    have b_r_8 : (0 : Int) ≤ r_8.toInt ∧ r_8.toInt ≤ 0 := r_eq1 b_r_8 (by decide : (0 : Int) ≤ (0 : Int32).toInt ∧ (0 : Int32).toInt ≤ 0) n_c_9 (by decide)
    have hP9 := hP.sub (ws' := [(rw, .inr (2, [.int wd, .int rz, .ref nu])), (nu, .inl (cN, 60, .inr (.inl fn)))]) [0, 1] rfl
    have hD9 := hD.sub (ws' := [(rw, .inr (2, [.int wd, .int rz, .ref nu])), (nu, .inl (cN, 60, .inr (.inl fn)))]) [0, 1] (by decide) rfl
    have hK9 := hK.sub (tys' := [(cN, .long)]) [0] rfl
    exact W.vret hx hb hr (fun t ht hW => ⟨⟨(), rfl, trivial, fn, by rw [ht]; exact hP9, va_K.moved hW.alike hK9, hD9⟩, hS.F ht⟩) hS.2.2 dX3_take_35
  ·
    have n_c_9 : (r_8.toInt : Int) ≠ 0 := c_ne rfl (by decide) c_9
    have b_r_8 : (1 : Int) ≤ r_8.toInt ∧ r_8.toInt ≤ 1 := r_ne1 b_r_8 (by decide : (0 : Int) ≤ (0 : Int32).toInt ∧ (0 : Int32).toInt ≤ 0) n_c_9 (by decide)
    obtain ⟨b_a1, b_a3, g_10⟩ := nz_r_8 c_9
    refine lv_aload_n hx hb dX3_take_10 rfl (lv_at hl 2 rfl) ?_
    refine lv_iload_n hx hb dX3_take_11 rfl (lv_at hl 3 rfl) ?_
    refine lv_iload hx hb dX3_take_12 (lv_at hl 4 rfl) ?_
    refine vp_callSi (W.runV (As := [.int a2, .int a3]) (rest := []) ⟨hx, hb, hml, hown, hts⟩ (kX3_hasStretch l dC dI rw wd rz nu a2 a3 b_wd b_rz) (cwV 2 hts gX3_takeS__X3_hasStretch_V34 rfl rfl rfl hd_yX3_hasStretch ⟨lel 1 1 rfl, lel 22 64 rfl⟩) ⟨pw_fb, rcv_X3 hK hP (q0 := 0) rfl, (pw_use hP hK hN [0] rfl [] rfl)⟩ rfl rfl hl.1 rfl (lv_room (Nat.le_of_ble_eq_true rfl)) dX3_take_14 ⟨lel 0 0 rfl, lel 0 0 rfl⟩) (fun r_11 h_r_11 => ?_)
    obtain ⟨b_r_11, nz_r_11⟩ := h_r_11
    have b_r_11 : (0 : Int) ≤ r_11.toInt ∧ r_11.toInt ≤ 1 := b_r_11
    refine lv_if_eq (tgt := 35) hx hb dX3_take_17 (by decide) (fun c_12 => ?_) (fun c_12 => ?_)
    ·
      have n_c_12 : (r_11.toInt : Int) = 0 := c_eq rfl (by decide) c_12
      have b_r_11 : (0 : Int) ≤ r_11.toInt ∧ r_11.toInt ≤ 0 := r_eq1 b_r_11 (by decide : (0 : Int) ≤ (0 : Int32).toInt ∧ (0 : Int32).toInt ≤ 0) n_c_12 (by decide)
      have hP9 := hP.sub (ws' := [(rw, .inr (2, [.int wd, .int rz, .ref nu])), (nu, .inl (cN, 60, .inr (.inl fn)))]) [0, 1] rfl
      have hD9 := hD.sub (ws' := [(rw, .inr (2, [.int wd, .int rz, .ref nu])), (nu, .inl (cN, 60, .inr (.inl fn)))]) [0, 1] (by decide) rfl
      have hK9 := hK.sub (tys' := [(cN, .long)]) [0] rfl
      exact W.vret hx hb hr (fun t ht hW => ⟨⟨(), rfl, trivial, fn, by rw [ht]; exact hP9, va_K.moved hW.alike hK9, hD9⟩, hS.F ht⟩) hS.2.2 dX3_take_35
    ·
      have n_c_12 : (r_11.toInt : Int) ≠ 0 := c_ne rfl (by decide) c_12
      have b_r_11 : (1 : Int) ≤ r_11.toInt ∧ r_11.toInt ≤ 1 := r_ne1 b_r_11 (by decide : (0 : Int) ≤ (0 : Int32).toInt ∧ (0 : Int32).toInt ≤ 0) n_c_12 (by decide)
      obtain ⟨b_a2, b_a3, g_13⟩ := nz_r_11 c_12
      refine lv_aload_n hx hb dX3_take_20 rfl (lv_at hl 2 rfl) ?_
      refine va_get (D := (dC, dI)) (ci := 2) (v := .ref nu) (C := RX3) (T := TX3) (N := 3) hx hb hts iX3_takeS_X3 hown hK hP 0 rfl rfl 2 (by decide) (hts (.fieldLink RX3 15 "LuckyTicket$Row" "numbers" "[J") (List.mem_of_getElem? (i := 5) rfl)) (fun _ h9 => h9) rfl dX3_take_21 ?_
      refine lv_iload_n hx hb dX3_take_24 rfl (lv_at hl 3 rfl) ?_
      refine lv_aload_n hx hb dX3_take_25 rfl (lv_at hl 0 rfl) ?_
      refine va_get (D := (dC, dI)) (ci := 2) (v := .ref nu) (C := RX3) (T := TX3) (N := 3) hx hb hts iX3_takeS_X3 hown hK hP 0 rfl rfl 2 (by decide) (hts (.fieldLink RX3 15 "LuckyTicket$Row" "numbers" "[J") (List.mem_of_getElem? (i := 5) rfl)) (fun _ h9 => h9) rfl dX3_take_26 ?_
      refine lv_iload_n hx hb dX3_take_29 rfl (lv_at hl 1 rfl) ?_
      refine lv_iload hx hb dX3_take_30 (lv_at hl 4 rfl) ?_
      refine va_copyl (ty := .long) hx hb (hml.trans hl.1.symm) hown (hts (.methodLink RX3 38 arraycopyName) (List.mem_of_getElem? (i := 6) rfl)) (hts (.native arraycopyName) (List.mem_of_getElem? (i := 7) rfl)) (hts (.static arraycopyName) (List.mem_of_getElem? (i := 8) rfl)) (hts (.initialized RJ10) (List.mem_of_getElem? (i := 9) rfl)) hK hP hD hS 1 1 0 0 rfl rfl rfl rfl rfl (ti_nn (by have q := b_a2; omega)) (ti_nn (by have q := b_a1; omega)) (ti_nn (by have q := b_a3; omega)) (cp_le (by have q := b_a2; omega) (by have q := b_a3; omega) (by have q1 := b_a2; have q2 := b_a3; omega)) (cp_le (by have q := b_a1; omega) (by have q := b_a3; omega) (by have q1 := b_a1; have q2 := b_a3; omega)) (fun _ _ => rfl) (lel 1 1 rfl) (Nat.le_of_ble_eq_true rfl) dX3_take_32 (fun H locs hP hD hS => ?_)
      have hP : va_P (dC, dI) vwCl [(rw, .inr (2, [.int wd, .int rz, .ref nu])), (nu, .inl (cN, 60, .inr (.inl (va_cpy fn fn (a2 : Int32).toNatClampNeg (a1 : Int32).toNatClampNeg (a3 : Int32).toNatClampNeg))))] H := hP
      have hD : va_D A [(rw, .inr (2, [.int wd, .int rz, .ref nu])), (nu, .inl (cN, 60, .inr (.inl (va_cpy fn fn (a2 : Int32).toNatClampNeg (a1 : Int32).toNatClampNeg (a3 : Int32).toNatClampNeg))))] := hD
      generalize (va_cpy fn fn (a2 : Int32).toNatClampNeg (a1 : Int32).toNatClampNeg (a3 : Int32).toNatClampNeg) = f_14 at hP hD
      have hP : va_P (dC, dI) vwCl [(rw, .inr (2, [.int wd, .int rz, .ref nu])), (nu, .inl (cN, 60, .inr (.inl f_14)))] H := hP
      have hD : va_D A [(rw, .inr (2, [.int wd, .int rz, .ref nu])), (nu, .inl (cN, 60, .inr (.inl f_14)))] := hD
      have hP9 := hP.sub (ws' := [(rw, .inr (2, [.int wd, .int rz, .ref nu])), (nu, .inl (cN, 60, .inr (.inl f_14)))]) [0, 1] rfl
      have hD9 := hD.sub (ws' := [(rw, .inr (2, [.int wd, .int rz, .ref nu])), (nu, .inl (cN, 60, .inr (.inl f_14)))]) [0, 1] (by decide) rfl
      have hK9 := hK.sub (tys' := [(cN, .long)]) [0] rfl
      exact W.vret hx hb hr (fun t ht hW => ⟨⟨(), rfl, trivial, f_14, by rw [ht]; exact hP9, va_K.moved hW.alike hK9, hD9⟩, hS.F ht⟩) hS.2.2 dX3_take_35
