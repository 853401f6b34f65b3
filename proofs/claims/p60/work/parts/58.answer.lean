def rowA (a b c : Int32) : Int32 := if (0 ≤ a.toInt ∧ a.toInt ≤ 3) ∧ (0 ≤ b.toInt ∧ b.toInt ≤ 3) ∧ c.toInt ≤ 60 then (if c.toInt < 0 then -3 else 0) else -2
theorem ro_2 {a b c : Int32} (h : ¬ ((0 ≤ a.toInt ∧ a.toInt ≤ 3) ∧ (0 ≤ b.toInt ∧ b.toInt ≤ 3) ∧ c.toInt ≤ 60)) : (-2 : Int32) = rowA a b c := (if_neg h).symm
theorem ro_3 {a b c : Int32} (h : (0 ≤ a.toInt ∧ a.toInt ≤ 3) ∧ (0 ≤ b.toInt ∧ b.toInt ≤ 3) ∧ c.toInt ≤ 60) (h2 : c.toInt < 0) : (-3 : Int32) = rowA a b c := by unfold rowA; rw [if_pos h, if_pos h2]
theorem ro_0 {a b c : Int32} (h : (0 ≤ a.toInt ∧ a.toInt ≤ 3) ∧ (0 ≤ b.toInt ∧ b.toInt ≤ 3) ∧ c.toInt ≤ 60) (h2 : ¬ c.toInt < 0) : (0 : Int32) = rowA a b c := by unfold rowA; rw [if_pos h, if_neg h2]
def uX9_isWithin2 : List Cond := .code yX9_isWithin cX9_isWithin 3 (some .boolean) :: ([])
set_option maxHeartbeats 4000000 in
set_option maxRecDepth 100000 in
theorem kX9_isWithin2 (l : Launch) (dC : Nat → ClassId) (dI : Nat → Nat → Nat) (a1 : Int32) (a2 : Int32) (a3 : Int32) : Met l yX9_isWithin uX9_isWithin2 ({ frames := 0, cells := 0, slots := 0, locals := 0 }) (va_Pc [.int a1, .int a2, .int a3] (fun _ => True)) (vp_Si (fun r => ((0 : Int) ≤ r.toInt ∧ r.toInt ≤ 1) ∧ (r ≠ 0 → (a2.toInt ≤ a1.toInt ∧ a1.toInt ≤ a3.toInt)) ∧ (r = 0 → (¬ (a2.toInt ≤ a1.toInt ∧ a1.toInt ≤ a3.toInt))))) 0 0 (fun _ => False) := by
  refine Met.ofW (cc := cX9_isWithin) (maxL := 3) (ret := (some .boolean)) (by decide) rfl ?_
  intro p e s m args below meth c s₁ B hml hv
  obtain ⟨rfl, _⟩ := hv
  have hx := B.exec
  have hb := B.bytes
  have hr := B.returns
  have hts := atoms_spec (ws := uX9_isWithin2) B.pre
  have hown : s.vm.findClass RX9 = some m.cls := findClass_of_methodNamed B.named
  have hlocks := B.notSynchronized
  have hl := lv_entry ([.int a1, .int a2, .int a3]) (n := 3) (Nat.le_of_ble_eq_true rfl)
  rw [lg_entry_eq]
  generalize (lg_sl ([.int a1, .int a2, .int a3]) ++ List.replicate (3 - (lg_sl ([.int a1, .int a2, .int a3])).length) Slot.unset).toArray = ls at hl ⊢
  have hl : lv_has ls 3 [(0, .int a1), (1, .int a2), (2, .int a3)] := hl
  refine lv_iload_n hx hb dX9_isWithin_0 rfl (lv_at hl 0 rfl) ?_
  refine lv_iload_n hx hb dX9_isWithin_1 rfl (lv_at hl 1 rfl) ?_
  refine lv_icmp_lt (tgt := 14) hx hb dX9_isWithin_2 (by decide) (fun c_3 => ?_) (fun c_3 => ?_)
  ·
    have n_c_3 : (a1.toInt : Int) < a2.toInt := c_lt rfl rfl c_3
    have b_a1 : (-2147483648 : Int) ≤ a1.toInt ∧ a1.toInt ≤ 2147483646 := r_lt1 (ti_rng a1) (ti_rng a2) n_c_3 (by decide)
    have b_a2 : (-2147483647 : Int) ≤ a2.toInt ∧ a2.toInt ≤ 2147483647 := r_lt2 (ti_rng a1) (ti_rng a2) n_c_3 (by decide)
    refine lv_iconst (v := 0) hx hb dX9_isWithin_14 (by decide) ?_
    exact W.zret (v := 0) hx hb hr rfl (fun t ht hW => ⟨0, rfl, ⟨(rg_w (by decide : (0 : Int) ≤ (0 : Int32).toInt ∧ (0 : Int32).toInt ≤ 0) (by decide) (by decide)), (fun h9 => absurd rfl h9), (fun _ => (by omega))⟩, ht⟩) t_nil dX9_isWithin_15
  ·
    have n_c_3 : (a2.toInt : Int) ≤ a1.toInt := c_nlt rfl rfl c_3
    refine lv_iload_n hx hb dX9_isWithin_5 rfl (lv_at hl 0 rfl) ?_
    refine lv_iload_n hx hb dX9_isWithin_6 rfl (lv_at hl 2 rfl) ?_
    refine lv_icmp_gt (tgt := 14) hx hb dX9_isWithin_7 (by decide) (fun c_4 => ?_) (fun c_4 => ?_)
    ·
      have n_c_4 : (a3.toInt : Int) < a1.toInt := c_gt rfl rfl c_4
      have b_a3 : (-2147483648 : Int) ≤ a3.toInt ∧ a3.toInt ≤ 2147483646 := r_lt1 (ti_rng a3) (ti_rng a1) n_c_4 (by decide)
      have b_a1 : (-2147483647 : Int) ≤ a1.toInt ∧ a1.toInt ≤ 2147483647 := r_lt2 (ti_rng a3) (ti_rng a1) n_c_4 (by decide)
      refine lv_iconst (v := 0) hx hb dX9_isWithin_14 (by decide) ?_
      exact W.zret (v := 0) hx hb hr rfl (fun t ht hW => ⟨0, rfl, ⟨(rg_w (by decide : (0 : Int) ≤ (0 : Int32).toInt ∧ (0 : Int32).toInt ≤ 0) (by decide) (by decide)), (fun h9 => absurd rfl h9), (fun _ => (by omega))⟩, ht⟩) t_nil dX9_isWithin_15
    ·
      have n_c_4 : (a1.toInt : Int) ≤ a3.toInt := c_ngt rfl rfl c_4
      refine lv_iconst (v := 1) hx hb dX9_isWithin_10 (by decide) ?_
      refine lv_goto (tgt := 15) hx hb dX9_isWithin_11 (by decide) ?_
      exact W.zret (v := 1) hx hb hr rfl (fun t ht hW => ⟨1, rfl, ⟨(rg_w (by decide : (1 : Int) ≤ (1 : Int32).toInt ∧ (1 : Int32).toInt ≤ 1) (by decide) (by decide)), (fun _ => (by omega)), (fun h9 => absurd h9 (by decide))⟩, ht⟩) t_nil dX9_isWithin_15
def uX9_hasSlot2 : List Cond := .code yX9_hasSlot cX9_hasSlot 2 (some .boolean) :: ([.fieldLink RX9 50 "LuckyTicket" "slots" "[LLuckyTicket$Row;", .methodLink RX9 158 yX9_isWithin, .static yX9_isWithin, .initialized RX9, .code yX9_isWithin cX9_isWithin 3 (some .boolean)] ++ wsX90)
theorem iX9_hasSlot2_X9 : ∀ w ∈ wsX90, w ∈ uX9_hasSlot2 := fun _ h => List.mem_cons_of_mem _ (List.mem_append_right _ h)
set_option maxRecDepth 20000 in
theorem gX9_hasSlot2__X9_isWithin2_S158 : GoodIn uX9_hasSlot2 (va_wsS RX9 158 yX9_isWithin uX9_isWithin2) := goodIn_p _ [5] rfl (by decide +kernel)
set_option maxHeartbeats 4000000 in
set_option maxRecDepth 100000 in
theorem kX9_hasSlot2 (l : Launch) (dC : Nat → ClassId) (dI : Nat → Nat → Nat) (h0 : Nat) (tp : Nat) (sc : Nat) (rd : Nat) (cu : Nat) (im : Nat) (ig : Nat) (sl : Nat) (se : Nat) (sm : Nat) (fc : Nat) (cS : ClassId) (s0 : Nat) (s1 : Nat) (s2 : Nat) (s3 : Nat) (a1 : Int32) : Met l yX9_hasSlot uX9_hasSlot2 ({ frames := 1, cells := 0, slots := 0, locals := 22 }) (va_Pc [.ref h0, .int a1] (pw (dC, dI) vwCl [(h0, .inr (7, [.ref tp, .ref sc, .ref rd, .ref cu, .ref im, .ref ig, .ref sl, .ref se, .ref sm, .ref fc])), (sl, .inl (cS, 4, .inr (.inr (.inr (.inr (sf4 s0 s1 s2 s3))))))] [(cS, .object RX3)])) (vp_Si (fun r => ((0 : Int) ≤ r.toInt ∧ r.toInt ≤ 1) ∧ (r ≠ 0 → ((0 : Int) ≤ a1.toInt ∧ a1.toInt ≤ 3) ∧ (True)) ∧ (r = 0 → (¬ (0 ≤ a1.toInt ∧ a1.toInt ≤ 3))))) 0 0 (fun _ => False) := by
  refine Met.ofW (cc := cX9_hasSlot) (maxL := 2) (ret := (some .boolean)) (by decide) rfl ?_
  intro p e s m args below meth c s₁ B hml hv
  obtain ⟨rfl, hP, hK, hN⟩ := hv
  have hx := B.exec
  have hb := B.bytes
  have hr := B.returns
  have hts := atoms_spec (ws := uX9_hasSlot2) B.pre
  have hown : s.vm.findClass RX9 = some m.cls := findClass_of_methodNamed B.named
  have hlocks := B.notSynchronized
  have hl := lv_entry ([.ref h0, .int a1]) (n := 2) (Nat.le_of_ble_eq_true rfl)
  rw [lg_entry_eq]
  generalize (lg_sl ([.ref h0, .int a1]) ++ List.replicate (2 - (lg_sl ([.ref h0, .int a1])).length) Slot.unset).toArray = ls at hl ⊢
  have hl : lv_has ls 2 [(0, .ref h0), (1, .int a1)] := hl
  refine lv_iload_n hx hb dX9_hasSlot_0 rfl (lv_at hl 1 rfl) ?_
  refine lv_iconst (v := 0) hx hb dX9_hasSlot_1 (by decide) ?_
  refine lv_aload_n hx hb dX9_hasSlot_2 rfl (lv_at hl 0 rfl) ?_
  refine va_get (D := (dC, dI)) (ci := 7) (v := .ref sl) (C := RX9) (T := TX9) (N := 10) hx hb hts iX9_hasSlot2_X9 hown hK hP 0 rfl rfl 6 (by decide) (hts (.fieldLink RX9 50 "LuckyTicket" "slots" "[LLuckyTicket$Row;") (List.mem_of_getElem? (i := 1) rfl)) (fun _ h9 => h9) rfl dX9_hasSlot_3 ?_
  refine va_alen (v := 4) hx hb hK hP 1 0 rfl rfl (by rfl) dX9_hasSlot_6 ?_
  refine lv_iconst (v := 1) hx hb dX9_hasSlot_7 (by decide) ?_
  refine lv_isub hx hb dX9_hasSlot_8 ?_
  refine lv_topi (fun z_3 e_z_3 => ?_)
  obtain rfl : z_3 = 3 := e_z_3.trans (by decide)
  refine vp_callSi (W.runS (As := [.int a1, .int 0, .int 3]) (rest := []) ⟨hx, hb, hml, hown, hts⟩ (kX9_isWithin2 l dC dI a1 0 3 ) (va_cwS 3 hts gX9_hasSlot2__X9_isWithin2_S158 rfl rfl rfl (by decide +kernel) ⟨lel 1 1 rfl, lel 22 22 rfl⟩) ⟨pn_fb, pn_use⟩ rfl rfl hl.1 rfl (lv_room (Nat.le_of_ble_eq_true rfl)) dX9_hasSlot_9 ⟨lel 0 0 rfl, lel 0 0 rfl⟩) (fun r_4 h_r_4 => ?_)
  obtain ⟨b_r_4, nz_r_4, zz_r_4⟩ := h_r_4
  have b_r_4 : (0 : Int) ≤ r_4.toInt ∧ r_4.toInt ≤ 1 := b_r_4
  exact W.zret (v := r_4) hx hb hr (zn_b b_r_4) (fun t ht hW => ⟨r_4, rfl, ⟨b_r_4, (fun h9 => by have h8 := nz_r_4 h9; have h7 := (by decide : (0 : Int32).toInt = 0); have h7 := (by decide : (3 : Int32).toInt = 3); exact ⟨⟨by omega, by omega⟩, trivial⟩), (fun h9 => by have h8 := zz_r_4 h9; have h7 := (by decide : (0 : Int32).toInt = 0); have h7 := (by decide : (3 : Int32).toInt = 3); exact (by omega))⟩, ht⟩) t_nil dX9_hasSlot_12
def uX9_rowF : List Cond := .code yX9_row cX9_row 4 (some .int) :: ([.methodLink RX9 206 yX9_hasSlot, .instanceMethod yX9_hasSlot, .selects RX9 yX9_hasSlot yX9_hasSlot, .initialized RX9, .code yX9_hasSlot cX9_hasSlot 2 (some .boolean), .fieldLink RX9 50 "LuckyTicket" "slots" "[LLuckyTicket$Row;", .methodLink RX9 158 yX9_isWithin, .static yX9_isWithin, .code yX9_isWithin cX9_isWithin 3 (some .boolean), .methodLink RX9 340 yX3_begin, .instanceMethod yX3_begin, .selects RX3 yX3_begin yX3_begin, .initialized RX3, .code yX3_begin cX3_begin 3 none, .fieldLink RX3 9 "LuckyTicket$Row" "width" "I", .fieldLink RX3 19 "LuckyTicket$Row" "size" "I", .fieldLink RX3 15 "LuckyTicket$Row" "numbers" "[J", .methodLink RX3 22 yJ7_fill_d0a16, .static yJ7_fill_d0a16, .initialized RJ7, .code yJ7_fill_d0a16 cJ7_fill_d0a16 5 none] ++ wsX90 ++ wsX30)
theorem iX9_rowF_X9 : ∀ w ∈ wsX90, w ∈ uX9_rowF := fun _ h => List.mem_cons_of_mem _ (List.mem_append_left _ (List.mem_append_right _ h))
theorem iX9_rowF_X3 : ∀ w ∈ wsX30, w ∈ uX9_rowF := fun _ h => List.mem_cons_of_mem _ (List.mem_append_right _ h)
set_option maxRecDepth 20000 in
theorem gX9_rowF__X9_hasSlot2_V206 : GoodIn uX9_rowF (wsV RX9 206 RX9 yX9_hasSlot uX9_hasSlot2) := goodIn_p _ [5, 9] rfl (by decide +kernel)
set_option maxRecDepth 20000 in
theorem gX9_rowF__X9_isWithin2_S158 : GoodIn uX9_rowF (va_wsS RX9 158 yX9_isWithin uX9_isWithin2) := goodIn_p _ [9] rfl (by decide +kernel)
set_option maxRecDepth 20000 in
theorem gX9_rowF__X3_begin_V340 : GoodIn uX9_rowF (wsV RX9 340 RX3 yX3_begin uX3_begin) := goodIn_p _ [14, 21] rfl (by decide +kernel)
set_option maxHeartbeats 4000000 in
set_option maxRecDepth 100000 in
theorem kX9_rowF (l : Launch) (dC : Nat → ClassId) (dI : Nat → Nat → Nat) (h0 : Nat) (tp : Nat) (sc : Nat) (rd : Nat) (cu : Nat) (im : Nat) (ig : Nat) (sl : Nat) (se : Nat) (sm : Nat) (fc : Nat) (cS : ClassId) (s0 : Nat) (s1 : Nat) (s2 : Nat) (s3 : Nat) (n0 : Nat) (n1 : Nat) (n2 : Nat) (n3 : Nat) (wd0 : Int32) (wd1 : Int32) (wd2 : Int32) (wd3 : Int32) (rz0 : Int32) (rz1 : Int32) (rz2 : Int32) (rz3 : Int32) (cJ0 : ClassId) (cJ1 : ClassId) (cJ2 : ClassId) (cJ3 : ClassId) (g0 : Nat → Int64) (g1 : Nat → Int64) (g2 : Nat → Int64) (g3 : Nat → Int64) (a1 : Int32) (a2 : Int32) (a3 : Int32) (sz : Nat) (b_wd0 : (-1 : Int) ≤ wd0.toInt ∧ wd0.toInt ≤ 3) (b_wd1 : (-1 : Int) ≤ wd1.toInt ∧ wd1.toInt ≤ 3) (b_wd2 : (-1 : Int) ≤ wd2.toInt ∧ wd2.toInt ≤ 3) (b_wd3 : (-1 : Int) ≤ wd3.toInt ∧ wd3.toInt ≤ 3) (b_rz0 : (0 : Int) ≤ rz0.toInt ∧ rz0.toInt ≤ 60) (b_rz1 : (0 : Int) ≤ rz1.toInt ∧ rz1.toInt ≤ 60) (b_rz2 : (0 : Int) ≤ rz2.toInt ∧ rz2.toInt ≤ 60) (b_rz3 : (0 : Int) ≤ rz3.toInt ∧ rz3.toInt ≤ 60) : Met l yX9_row uX9_rowF ({ frames := 2, cells := 0, slots := 0, locals := 46 }) (va_Pc [.ref h0, .int a1, .int a2, .int a3] (hw (dC, dI) vwCl [(h0, .inr (7, [.ref tp, .ref sc, .ref rd, .ref cu, .ref im, .ref ig, .ref sl, .ref se, .ref sm, .ref fc])), (sl, .inl (cS, 4, .inr (.inr (.inr (.inr (sf4 s0 s1 s2 s3)))))), (s0, .inr (2, [.int wd0, .int rz0, .ref n0])), (s1, .inr (2, [.int wd1, .int rz1, .ref n1])), (s2, .inr (2, [.int wd2, .int rz2, .ref n2])), (s3, .inr (2, [.int wd3, .int rz3, .ref n3])), (n0, .inl (cJ0, 60, .inr (.inl g0))), (n1, .inl (cJ1, 60, .inr (.inl g1))), (n2, .inl (cJ2, 60, .inr (.inl g2))), (n3, .inl (cJ3, 60, .inr (.inl g3)))] [(cS, .object RX3), (cJ0, .long), (cJ1, .long), (cJ2, .long), (cJ3, .long)] sz)) (va_Qi (fun (r : Int32) (_ : Unit) => ((-3 : Int) ≤ r.toInt ∧ r.toInt ≤ 0) ∧ (r = rowA a1 a2 a3)) (fun (_ : Unit) t => ∃ (o0_ : Int32) (o1_ : Int32) (o2_ : Int32) (o3_ : Int32) (o4_ : Int32) (o5_ : Int32) (o6_ : Int32) (o7_ : Int32) (o8_ : Nat → Int64) (o9_ : Nat → Int64) (o10_ : Nat → Int64) (o11_ : Nat → Int64), ((-1 : Int) ≤ o0_.toInt ∧ o0_.toInt ≤ 3) ∧ ((0 : Int) ≤ o1_.toInt ∧ o1_.toInt ≤ 60) ∧ ((-1 : Int) ≤ o2_.toInt ∧ o2_.toInt ≤ 3) ∧ ((0 : Int) ≤ o3_.toInt ∧ o3_.toInt ≤ 60) ∧ ((-1 : Int) ≤ o4_.toInt ∧ o4_.toInt ≤ 3) ∧ ((0 : Int) ≤ o5_.toInt ∧ o5_.toInt ≤ 60) ∧ ((-1 : Int) ≤ o6_.toInt ∧ o6_.toInt ≤ 3) ∧ ((0 : Int) ≤ o7_.toInt ∧ o7_.toInt ≤ 60) ∧ va_P (dC, dI) vwCl [(h0, .inr (7, [.ref tp, .ref sc, .ref rd, .ref cu, .ref im, .ref ig, .ref sl, .ref se, .ref sm, .ref fc])), (sl, .inl (cS, 4, .inr (.inr (.inr (.inr (sf4 s0 s1 s2 s3)))))), (s0, .inr (2, [.int o0_, .int o1_, .ref n0])), (s1, .inr (2, [.int o2_, .int o3_, .ref n1])), (s2, .inr (2, [.int o4_, .int o5_, .ref n2])), (s3, .inr (2, [.int o6_, .int o7_, .ref n3])), (n0, .inl (cJ0, 60, .inr (.inl o8_))), (n1, .inl (cJ1, 60, .inr (.inl o9_))), (n2, .inl (cJ2, 60, .inr (.inl o10_))), (n3, .inl (cJ3, 60, .inr (.inl o11_)))] t.heap ∧ va_K (dC, dI) vwCl [(cS, .object RX3), (cJ0, .long), (cJ1, .long), (cJ2, .long), (cJ3, .long)] t ∧ va_D (va_A [(h0, .inr (7, [.ref tp, .ref sc, .ref rd, .ref cu, .ref im, .ref ig, .ref sl, .ref se, .ref sm, .ref fc])), (sl, .inl (cS, 4, .inr (.inr (.inr (.inr (sf4 s0 s1 s2 s3)))))), (s0, .inr (2, [.int wd0, .int rz0, .ref n0])), (s1, .inr (2, [.int wd1, .int rz1, .ref n1])), (s2, .inr (2, [.int wd2, .int rz2, .ref n2])), (s3, .inr (2, [.int wd3, .int rz3, .ref n3])), (n0, .inl (cJ0, 60, .inr (.inl g0))), (n1, .inl (cJ1, 60, .inr (.inl g1))), (n2, .inl (cJ2, 60, .inr (.inl g2))), (n3, .inl (cJ3, 60, .inr (.inl g3)))] sz) [(h0, .inr (7, [.ref tp, .ref sc, .ref rd, .ref cu, .ref im, .ref ig, .ref sl, .ref se, .ref sm, .ref fc])), (sl, .inl (cS, 4, .inr (.inr (.inr (.inr (sf4 s0 s1 s2 s3)))))), (s0, .inr (2, [.int o0_, .int o1_, .ref n0])), (s1, .inr (2, [.int o2_, .int o3_, .ref n1])), (s2, .inr (2, [.int o4_, .int o5_, .ref n2])), (s3, .inr (2, [.int o6_, .int o7_, .ref n3])), (n0, .inl (cJ0, 60, .inr (.inl o8_))), (n1, .inl (cJ1, 60, .inr (.inl o9_))), (n2, .inl (cJ2, 60, .inr (.inl o10_))), (n3, .inl (cJ3, 60, .inr (.inl o11_)))]) (va_A [(h0, .inr (7, [.ref tp, .ref sc, .ref rd, .ref cu, .ref im, .ref ig, .ref sl, .ref se, .ref sm, .ref fc])), (sl, .inl (cS, 4, .inr (.inr (.inr (.inr (sf4 s0 s1 s2 s3)))))), (s0, .inr (2, [.int wd0, .int rz0, .ref n0])), (s1, .inr (2, [.int wd1, .int rz1, .ref n1])), (s2, .inr (2, [.int wd2, .int rz2, .ref n2])), (s3, .inr (2, [.int wd3, .int rz3, .ref n3])), (n0, .inl (cJ0, 60, .inr (.inl g0))), (n1, .inl (cJ1, 60, .inr (.inl g1))), (n2, .inl (cJ2, 60, .inr (.inl g2))), (n3, .inl (cJ3, 60, .inr (.inl g3)))] sz)) 0 0 (va_A [(h0, .inr (7, [.ref tp, .ref sc, .ref rd, .ref cu, .ref im, .ref ig, .ref sl, .ref se, .ref sm, .ref fc])), (sl, .inl (cS, 4, .inr (.inr (.inr (.inr (sf4 s0 s1 s2 s3)))))), (s0, .inr (2, [.int wd0, .int rz0, .ref n0])), (s1, .inr (2, [.int wd1, .int rz1, .ref n1])), (s2, .inr (2, [.int wd2, .int rz2, .ref n2])), (s3, .inr (2, [.int wd3, .int rz3, .ref n3])), (n0, .inl (cJ0, 60, .inr (.inl g0))), (n1, .inl (cJ1, 60, .inr (.inl g1))), (n2, .inl (cJ2, 60, .inr (.inl g2))), (n3, .inl (cJ3, 60, .inr (.inl g3)))] sz) := by
  refine Met.ofW (cc := cX9_row) (maxL := 4) (ret := (some .int)) (by decide) rfl ?_
  intro p e s m args below meth c s₁ B hml hv
  obtain ⟨rfl, hsz, hP, hK, hD0, hN⟩ := hv
  have hx := B.exec
  have hb := B.bytes
  have hr := B.returns
  have hts := atoms_spec (ws := uX9_rowF) B.pre
  have hown : s.vm.findClass RX9 = some m.cls := findClass_of_methodNamed B.named
  have hlocks := B.notSynchronized
  subst hsz
  have hD := hD0.self (sz := s.heap.size)
  generalize hAe : va_A [(h0, .inr (7, [.ref tp, .ref sc, .ref rd, .ref cu, .ref im, .ref ig, .ref sl, .ref se, .ref sm, .ref fc])), (sl, .inl (cS, 4, .inr (.inr (.inr (.inr (sf4 s0 s1 s2 s3)))))), (s0, .inr (2, [.int wd0, .int rz0, .ref n0])), (s1, .inr (2, [.int wd1, .int rz1, .ref n1])), (s2, .inr (2, [.int wd2, .int rz2, .ref n2])), (s3, .inr (2, [.int wd3, .int rz3, .ref n3])), (n0, .inl (cJ0, 60, .inr (.inl g0))), (n1, .inl (cJ1, 60, .inr (.inl g1))), (n2, .inl (cJ2, 60, .inr (.inl g2))), (n3, .inl (cJ3, 60, .inr (.inl g3)))] s.heap.size = A at hD ⊢
  have hA : ∀ q : Nat, s.heap.size ≤ q → A q := fun q h => by rw [← hAe]; exact Or.inr h
  have hS : va_S A s.heap s.heap [] := va_S.rf
  have hP : va_P (dC, dI) vwCl [(h0, .inr (7, [.ref tp, .ref sc, .ref rd, .ref cu, .ref im, .ref ig, .ref sl, .ref se, .ref sm, .ref fc])), (sl, .inl (cS, 4, .inr (.inr (.inr (.inr (sf4 s0 s1 s2 s3)))))), (s0, .inr (2, [.int wd0, .int rz0, .ref n0])), (s1, .inr (2, [.int wd1, .int rz1, .ref n1])), (s2, .inr (2, [.int wd2, .int rz2, .ref n2])), (s3, .inr (2, [.int wd3, .int rz3, .ref n3])), (n0, .inl (cJ0, 60, .inr (.inl g0))), (n1, .inl (cJ1, 60, .inr (.inl g1))), (n2, .inl (cJ2, 60, .inr (.inl g2))), (n3, .inl (cJ3, 60, .inr (.inl g3)))] s.heap := hP
  have hl := lv_entry ([.ref h0, .int a1, .int a2, .int a3]) (n := 4) (Nat.le_of_ble_eq_true rfl)
  rw [lg_entry_eq]
  generalize (lg_sl ([.ref h0, .int a1, .int a2, .int a3]) ++ List.replicate (4 - (lg_sl ([.ref h0, .int a1, .int a2, .int a3])).length) Slot.unset).toArray = ls at hl ⊢
  have hl : lv_has ls 4 [(0, .ref h0), (1, .int a1), (2, .int a2), (3, .int a3)] := hl
  refine lv_aload_n hx hb dX9_row_0 rfl (lv_at hl 0 rfl) ?_
  refine lv_iload_n hx hb dX9_row_1 rfl (lv_at hl 1 rfl) ?_
  refine vp_callSi (W.runV (As := [.int a1]) (rest := []) ⟨hx, hb, hml, hown, hts⟩ (kX9_hasSlot2 l dC dI h0 tp sc rd cu im ig sl se sm fc cS s0 s1 s2 s3 a1 ) (cwV 1 hts gX9_rowF__X9_hasSlot2_V206 rfl rfl rfl (by decide +kernel) ⟨lel 2 2 rfl, lel 43 46 rfl⟩) ⟨pw_fb, va_recv hK hP (ci := 7) (q0 := 0) rfl rfl, (pw_use hP hK hN [0, 1] rfl [0] rfl)⟩ rfl rfl hl.1 rfl (lv_room (Nat.le_of_ble_eq_true rfl)) dX9_row_2 ⟨lel 0 0 rfl, lel 0 0 rfl⟩) (fun r_24 h_r_24 => ?_)
  obtain ⟨b_r_24, nz_r_24, zz_r_24⟩ := h_r_24
  have b_r_24 : (0 : Int) ≤ r_24.toInt ∧ r_24.toInt ≤ 1 := b_r_24
  refine lv_if_eq (tgt := 23) hx hb dX9_row_5 (by decide) (fun c_25 => ?_) (fun c_25 => ?_)
  ·
    have n_c_25 : (r_24.toInt : Int) = 0 := c_eq rfl (by decide) c_25
    have b_r_24 : (0 : Int) ≤ r_24.toInt ∧ r_24.toInt ≤ 0 := r_eq1 b_r_24 (by decide : (0 : Int) ≤ (0 : Int32).toInt ∧ (0 : Int32).toInt ≤ 0) n_c_25 (by decide)
    have g_26 := zz_r_24 c_25
    refine lv_bipush (v := (-2)) hx hb dX9_row_23 (by decide) ?_
    have hP9 := hP.sub (ws' := [(h0, .inr (7, [.ref tp, .ref sc, .ref rd, .ref cu, .ref im, .ref ig, .ref sl, .ref se, .ref sm, .ref fc])), (sl, .inl (cS, 4, .inr (.inr (.inr (.inr (sf4 s0 s1 s2 s3)))))), (s0, .inr (2, [.int wd0, .int rz0, .ref n0])), (s1, .inr (2, [.int wd1, .int rz1, .ref n1])), (s2, .inr (2, [.int wd2, .int rz2, .ref n2])), (s3, .inr (2, [.int wd3, .int rz3, .ref n3])), (n0, .inl (cJ0, 60, .inr (.inl g0))), (n1, .inl (cJ1, 60, .inr (.inl g1))), (n2, .inl (cJ2, 60, .inr (.inl g2))), (n3, .inl (cJ3, 60, .inr (.inl g3)))]) [0, 1, 2, 3, 4, 5, 6, 7, 8, 9] rfl
    have hD9 := hD.sub (ws' := [(h0, .inr (7, [.ref tp, .ref sc, .ref rd, .ref cu, .ref im, .ref ig, .ref sl, .ref se, .ref sm, .ref fc])), (sl, .inl (cS, 4, .inr (.inr (.inr (.inr (sf4 s0 s1 s2 s3)))))), (s0, .inr (2, [.int wd0, .int rz0, .ref n0])), (s1, .inr (2, [.int wd1, .int rz1, .ref n1])), (s2, .inr (2, [.int wd2, .int rz2, .ref n2])), (s3, .inr (2, [.int wd3, .int rz3, .ref n3])), (n0, .inl (cJ0, 60, .inr (.inl g0))), (n1, .inl (cJ1, 60, .inr (.inl g1))), (n2, .inl (cJ2, 60, .inr (.inl g2))), (n3, .inl (cJ3, 60, .inr (.inl g3)))]) [0, 1, 2, 3, 4, 5, 6, 7, 8, 9] (by decide) rfl
    have hK9 := hK.sub (tys' := [(cS, .object RX3), (cJ0, .long), (cJ1, .long), (cJ2, .long), (cJ3, .long)]) [0, 1, 2, 3, 4] rfl
    exact W.iret (v := (-2)) hx hb hr (fun t ht hW => ⟨⟨(-2), (), rfl, ⟨(rg_w (by decide : (-2 : Int) ≤ ((-2) : Int32).toInt ∧ ((-2) : Int32).toInt ≤ -2) (by decide) (by decide)), (ro_2 (by omega))⟩, wd0, rz0, wd1, rz1, wd2, rz2, wd3, rz3, g0, g1, g2, g3, b_wd0, b_rz0, b_wd1, b_rz1, b_wd2, b_rz2, b_wd3, b_rz3, by rw [ht]; exact hP9, va_K.moved hW.alike hK9, hD9⟩, hS.F ht⟩) hS.2.2 dX9_row_25
  ·
    have n_c_25 : (r_24.toInt : Int) ≠ 0 := c_ne rfl (by decide) c_25
    have b_r_24 : (1 : Int) ≤ r_24.toInt ∧ r_24.toInt ≤ 1 := r_ne1 b_r_24 (by decide : (0 : Int) ≤ (0 : Int32).toInt ∧ (0 : Int32).toInt ≤ 0) n_c_25 (by decide)
    obtain ⟨b_a1, g_27⟩ := nz_r_24 c_25
    refine lv_iload_n hx hb dX9_row_8 rfl (lv_at hl 2 rfl) ?_
    refine lv_iconst (v := 0) hx hb dX9_row_9 (by decide) ?_
    refine lv_iconst (v := 3) hx hb dX9_row_10 (by decide) ?_
    refine vp_callSi (W.runS (As := [.int a2, .int 0, .int 3]) (rest := []) ⟨hx, hb, hml, hown, hts⟩ (kX9_isWithin2 l dC dI a2 0 3 ) (va_cwS 3 hts gX9_rowF__X9_isWithin2_S158 rfl rfl rfl (by decide +kernel) ⟨lel 1 2 rfl, lel 22 46 rfl⟩) ⟨pn_fb, pn_use⟩ rfl rfl hl.1 rfl (lv_room (Nat.le_of_ble_eq_true rfl)) dX9_row_11 ⟨lel 0 0 rfl, lel 0 0 rfl⟩) (fun r_28 h_r_28 => ?_)
    obtain ⟨b_r_28, nz_r_28, zz_r_28⟩ := h_r_28
    have b_r_28 : (0 : Int) ≤ r_28.toInt ∧ r_28.toInt ≤ 1 := b_r_28
    refine lv_if_eq (tgt := 23) hx hb dX9_row_14 (by decide) (fun c_29 => ?_) (fun c_29 => ?_)
    ·
      have n_c_29 : (r_28.toInt : Int) = 0 := c_eq rfl (by decide) c_29
      have b_r_28 : (0 : Int) ≤ r_28.toInt ∧ r_28.toInt ≤ 0 := r_eq1 b_r_28 (by decide : (0 : Int) ≤ (0 : Int32).toInt ∧ (0 : Int32).toInt ≤ 0) n_c_29 (by decide)
      have g_30 := zz_r_28 c_29
      have lt0_g_30 := (by decide : (0 : Int32).toInt = 0)
      have lt1_g_30 := (by decide : (3 : Int32).toInt = 3)
      refine lv_bipush (v := (-2)) hx hb dX9_row_23 (by decide) ?_
      have hP9 := hP.sub (ws' := [(h0, .inr (7, [.ref tp, .ref sc, .ref rd, .ref cu, .ref im, .ref ig, .ref sl, .ref se, .ref sm, .ref fc])), (sl, .inl (cS, 4, .inr (.inr (.inr (.inr (sf4 s0 s1 s2 s3)))))), (s0, .inr (2, [.int wd0, .int rz0, .ref n0])), (s1, .inr (2, [.int wd1, .int rz1, .ref n1])), (s2, .inr (2, [.int wd2, .int rz2, .ref n2])), (s3, .inr (2, [.int wd3, .int rz3, .ref n3])), (n0, .inl (cJ0, 60, .inr (.inl g0))), (n1, .inl (cJ1, 60, .inr (.inl g1))), (n2, .inl (cJ2, 60, .inr (.inl g2))), (n3, .inl (cJ3, 60, .inr (.inl g3)))]) [0, 1, 2, 3, 4, 5, 6, 7, 8, 9] rfl
      have hD9 := hD.sub (ws' := [(h0, .inr (7, [.ref tp, .ref sc, .ref rd, .ref cu, .ref im, .ref ig, .ref sl, .ref se, .ref sm, .ref fc])), (sl, .inl (cS, 4, .inr (.inr (.inr (.inr (sf4 s0 s1 s2 s3)))))), (s0, .inr (2, [.int wd0, .int rz0, .ref n0])), (s1, .inr (2, [.int wd1, .int rz1, .ref n1])), (s2, .inr (2, [.int wd2, .int rz2, .ref n2])), (s3, .inr (2, [.int wd3, .int rz3, .ref n3])), (n0, .inl (cJ0, 60, .inr (.inl g0))), (n1, .inl (cJ1, 60, .inr (.inl g1))), (n2, .inl (cJ2, 60, .inr (.inl g2))), (n3, .inl (cJ3, 60, .inr (.inl g3)))]) [0, 1, 2, 3, 4, 5, 6, 7, 8, 9] (by decide) rfl
      have hK9 := hK.sub (tys' := [(cS, .object RX3), (cJ0, .long), (cJ1, .long), (cJ2, .long), (cJ3, .long)]) [0, 1, 2, 3, 4] rfl
      exact W.iret (v := (-2)) hx hb hr (fun t ht hW => ⟨⟨(-2), (), rfl, ⟨(rg_w (by decide : (-2 : Int) ≤ ((-2) : Int32).toInt ∧ ((-2) : Int32).toInt ≤ -2) (by decide) (by decide)), (ro_2 (by omega))⟩, wd0, rz0, wd1, rz1, wd2, rz2, wd3, rz3, g0, g1, g2, g3, b_wd0, b_rz0, b_wd1, b_rz1, b_wd2, b_rz2, b_wd3, b_rz3, by rw [ht]; exact hP9, va_K.moved hW.alike hK9, hD9⟩, hS.F ht⟩) hS.2.2 dX9_row_25
    ·
      have n_c_29 : (r_28.toInt : Int) ≠ 0 := c_ne rfl (by decide) c_29
      have b_r_28 : (1 : Int) ≤ r_28.toInt ∧ r_28.toInt ≤ 1 := r_ne1 b_r_28 (by decide : (0 : Int) ≤ (0 : Int32).toInt ∧ (0 : Int32).toInt ≤ 0) n_c_29 (by decide)
      have g_31 := nz_r_28 c_29
      have lt0_g_31 := (by decide : (0 : Int32).toInt = 0)
      have lt1_g_31 := (by decide : (3 : Int32).toInt = 3)
      have b_a2 : (0 : Int) ≤ a2.toInt ∧ a2.toInt ≤ 3 := by
        have q0 := (ti_rng a2)
        have q1 := (by decide : (0 : Int) ≤ (0 : Int32).toInt ∧ (0 : Int32).toInt ≤ 0)
        have q2 := (by decide : (3 : Int) ≤ (3 : Int32).toInt ∧ (3 : Int32).toInt ≤ 3)
        omega
      refine lv_iload_n hx hb dX9_row_17 rfl (lv_at hl 3 rfl) ?_
      refine lv_bipush (v := 60) hx hb dX9_row_18 (by decide) ?_
      refine lv_icmp_le (tgt := 26) hx hb dX9_row_20 (by decide) (fun c_32 => ?_) (fun c_32 => ?_)
      ·
        have n_c_32 : (a3.toInt : Int) ≤ 60 := c_le rfl (by decide) c_32
        have b_a3 : (-2147483648 : Int) ≤ a3.toInt ∧ a3.toInt ≤ 60 := r_le1 (ti_rng a3) (by decide : (60 : Int) ≤ (60 : Int32).toInt ∧ (60 : Int32).toInt ≤ 60) n_c_32 (by decide)
        refine lv_iload_n hx hb dX9_row_26 rfl (lv_at hl 3 rfl) ?_
        refine lv_if_ge (tgt := 33) hx hb dX9_row_27 (by decide) (fun c_33 => ?_) (fun c_33 => ?_)
        ·
          have n_c_33 : (0 : Int) ≤ a3.toInt := c_ge rfl (by decide) c_33
          have b_a3 : (0 : Int) ≤ a3.toInt ∧ a3.toInt ≤ 60 := r_le2 (by decide : (0 : Int) ≤ (0 : Int32).toInt ∧ (0 : Int32).toInt ≤ 0) b_a3 n_c_33 (by decide)
          refine lv_aload_n hx hb dX9_row_33 rfl (lv_at hl 0 rfl) ?_
          refine va_get (D := (dC, dI)) (ci := 7) (v := .ref sl) (C := RX9) (T := TX9) (N := 10) hx hb hts iX9_rowF_X9 hown hK hP 0 rfl rfl 6 (by decide) (hts (.fieldLink RX9 50 "LuckyTicket" "slots" "[LLuckyTicket$Row;") (List.mem_of_getElem? (i := 6) rfl)) (fun _ h9 => h9) rfl dX9_row_34 ?_
          refine lv_iload_n hx hb dX9_row_37 rfl (lv_at hl 1 rfl) ?_
          rcases (show a1.toInt = 0 ∨ a1.toInt = 1 ∨ a1.toInt = 2 ∨ a1.toInt = 3 by omega) with h_34 | h_34 | h_34 | h_34
          ·
            obtain rfl : a1 = 0 := Int32.toInt_inj.mp (h_34.trans (by decide))
            refine va_aldq hx hb hK hP 1 0 rfl rfl (vp_in_b (by decide : (0 : Int) ≤ (0 : Int32).toInt ∧ (0 : Int32).toInt ≤ 0) (by decide) (by decide)) dX9_row_38 ?_
            refine W.eq (g2 := F0 m 39 ls (.ref s0 :: [])) (congrArg (fun v => F0 m 39 ls (va_rf v :: [])) (sf4_0 s0 s1 s2 s3)) ?_
            refine lv_iload_n hx hb dX9_row_39 rfl (lv_at hl 2 rfl) ?_
            refine lv_iload_n hx hb dX9_row_40 rfl (lv_at hl 3 rfl) ?_
            have hFc := va_free (wc := [(s0, .inr (2, [.int wd0, .int rz0, .ref n0])), (n0, .inl (cJ0, 60, .inr (.inl g0)))]) hD hS hA [2, 6] rfl
            refine va_callv (va_runV (As := [.int a2, .int a3]) (rest := []) ⟨hx, hb, hml, hown, hts⟩ (kX3_begin l dC dI s0 wd0 rz0 n0 cJ0 g0 a2 a3 (s.heap.size) b_wd0 b_rz0 b_a2 b_a3) (cwV 2 hts gX9_rowF__X3_begin_V340 rfl rfl rfl (by decide +kernel) ⟨lel 2 2 rfl, lel 46 46 rfl⟩) ⟨hw_fb, va_recv hK hP (ci := 2) (q0 := 2) rfl rfl, (hw_use hP hD hK hN [2, 6] rfl (by decide) rfl [1] rfl)⟩ rfl rfl hl.1 rfl (lv_room (Nat.le_of_ble_eq_true rfl)) dX9_row_41 ⟨lel 0 0 rfl, lel 0 0 rfl⟩) hS (fun q _ h => hFc q h) hFc (fun u_36 t H1 locs ht hvm hw_r_35 hB hz1 hk1 hS => ?_)
            obtain ⟨o2_37, hP1, hK1, hD1⟩ := hB
            rw [ht] at hP1
            have hK1 := va_K.moved hvm.symm hK1
            obtain ⟨hP, hD⟩ := va_join (wr := [(h0, .inr (7, [.ref tp, .ref sc, .ref rd, .ref cu, .ref im, .ref ig, .ref sl, .ref se, .ref sm, .ref fc])), (sl, .inl (cS, 4, .inr (.inr (.inr (.inr (sf4 s0 s1 s2 s3)))))), (s1, .inr (2, [.int wd1, .int rz1, .ref n1])), (s2, .inr (2, [.int wd2, .int rz2, .ref n2])), (s3, .inr (2, [.int wd3, .int rz3, .ref n3])), (n1, .inl (cJ1, 60, .inr (.inl g1))), (n2, .inl (cJ2, 60, .inr (.inl g2))), (n3, .inl (cJ3, 60, .inr (.inl g3)))]) (w1 := [(s0, .inr (2, [.int a2, .int a3, .ref n0])), (n0, .inl (cJ0, 60, .inr (.inl o2_37)))]) hP hD [2, 6] [0, 1, 3, 4, 5, 7, 8, 9] rfl rfl (by decide) (by decide) hk1 hFc hP1 hD1
            have hK := (hK.sub (tys' := [(cS, .object RX3), (cJ1, .long), (cJ2, .long), (cJ3, .long)]) [0, 2, 3, 4] rfl).app hK1
            generalize H1 = H at hP hS ⊢
            have hP := hP.sub (ws' := [(h0, .inr (7, [.ref tp, .ref sc, .ref rd, .ref cu, .ref im, .ref ig, .ref sl, .ref se, .ref sm, .ref fc])), (sl, .inl (cS, 4, .inr (.inr (.inr (.inr (sf4 s0 s1 s2 s3)))))), (s0, .inr (2, [.int a2, .int a3, .ref n0])), (s1, .inr (2, [.int wd1, .int rz1, .ref n1])), (s2, .inr (2, [.int wd2, .int rz2, .ref n2])), (s3, .inr (2, [.int wd3, .int rz3, .ref n3])), (n0, .inl (cJ0, 60, .inr (.inl o2_37))), (n1, .inl (cJ1, 60, .inr (.inl g1))), (n2, .inl (cJ2, 60, .inr (.inl g2))), (n3, .inl (cJ3, 60, .inr (.inl g3)))]) [0, 1, 8, 2, 3, 4, 9, 5, 6, 7] rfl
            have hD := hD.sub (ws' := [(h0, .inr (7, [.ref tp, .ref sc, .ref rd, .ref cu, .ref im, .ref ig, .ref sl, .ref se, .ref sm, .ref fc])), (sl, .inl (cS, 4, .inr (.inr (.inr (.inr (sf4 s0 s1 s2 s3)))))), (s0, .inr (2, [.int a2, .int a3, .ref n0])), (s1, .inr (2, [.int wd1, .int rz1, .ref n1])), (s2, .inr (2, [.int wd2, .int rz2, .ref n2])), (s3, .inr (2, [.int wd3, .int rz3, .ref n3])), (n0, .inl (cJ0, 60, .inr (.inl o2_37))), (n1, .inl (cJ1, 60, .inr (.inl g1))), (n2, .inl (cJ2, 60, .inr (.inl g2))), (n3, .inl (cJ3, 60, .inr (.inl g3)))]) [0, 1, 8, 2, 3, 4, 9, 5, 6, 7] (by decide) rfl
            have hK := hK.sub (tys' := [(cS, .object RX3), (cJ0, .long), (cJ1, .long), (cJ2, .long), (cJ3, .long)]) [0, 4, 1, 2, 3] rfl
            have hP : va_P (dC, dI) vwCl [(h0, .inr (7, [.ref tp, .ref sc, .ref rd, .ref cu, .ref im, .ref ig, .ref sl, .ref se, .ref sm, .ref fc])), (sl, .inl (cS, 4, .inr (.inr (.inr (.inr (sf4 s0 s1 s2 s3)))))), (s0, .inr (2, [.int a2, .int a3, .ref n0])), (s1, .inr (2, [.int wd1, .int rz1, .ref n1])), (s2, .inr (2, [.int wd2, .int rz2, .ref n2])), (s3, .inr (2, [.int wd3, .int rz3, .ref n3])), (n0, .inl (cJ0, 60, .inr (.inl o2_37))), (n1, .inl (cJ1, 60, .inr (.inl g1))), (n2, .inl (cJ2, 60, .inr (.inl g2))), (n3, .inl (cJ3, 60, .inr (.inl g3)))] H := hP
            have hD : va_D A [(h0, .inr (7, [.ref tp, .ref sc, .ref rd, .ref cu, .ref im, .ref ig, .ref sl, .ref se, .ref sm, .ref fc])), (sl, .inl (cS, 4, .inr (.inr (.inr (.inr (sf4 s0 s1 s2 s3)))))), (s0, .inr (2, [.int a2, .int a3, .ref n0])), (s1, .inr (2, [.int wd1, .int rz1, .ref n1])), (s2, .inr (2, [.int wd2, .int rz2, .ref n2])), (s3, .inr (2, [.int wd3, .int rz3, .ref n3])), (n0, .inl (cJ0, 60, .inr (.inl o2_37))), (n1, .inl (cJ1, 60, .inr (.inl g1))), (n2, .inl (cJ2, 60, .inr (.inl g2))), (n3, .inl (cJ3, 60, .inr (.inl g3)))] := hD
            have hK : va_K (dC, dI) vwCl [(cS, .object RX3), (cJ0, .long), (cJ1, .long), (cJ2, .long), (cJ3, .long)] s := hK
            refine lv_iconst (v := 0) hx hb dX9_row_44 (by decide) ?_
            have hP9 := hP.sub (ws' := [(h0, .inr (7, [.ref tp, .ref sc, .ref rd, .ref cu, .ref im, .ref ig, .ref sl, .ref se, .ref sm, .ref fc])), (sl, .inl (cS, 4, .inr (.inr (.inr (.inr (sf4 s0 s1 s2 s3)))))), (s0, .inr (2, [.int a2, .int a3, .ref n0])), (s1, .inr (2, [.int wd1, .int rz1, .ref n1])), (s2, .inr (2, [.int wd2, .int rz2, .ref n2])), (s3, .inr (2, [.int wd3, .int rz3, .ref n3])), (n0, .inl (cJ0, 60, .inr (.inl o2_37))), (n1, .inl (cJ1, 60, .inr (.inl g1))), (n2, .inl (cJ2, 60, .inr (.inl g2))), (n3, .inl (cJ3, 60, .inr (.inl g3)))]) [0, 1, 2, 3, 4, 5, 6, 7, 8, 9] rfl
            have hD9 := hD.sub (ws' := [(h0, .inr (7, [.ref tp, .ref sc, .ref rd, .ref cu, .ref im, .ref ig, .ref sl, .ref se, .ref sm, .ref fc])), (sl, .inl (cS, 4, .inr (.inr (.inr (.inr (sf4 s0 s1 s2 s3)))))), (s0, .inr (2, [.int a2, .int a3, .ref n0])), (s1, .inr (2, [.int wd1, .int rz1, .ref n1])), (s2, .inr (2, [.int wd2, .int rz2, .ref n2])), (s3, .inr (2, [.int wd3, .int rz3, .ref n3])), (n0, .inl (cJ0, 60, .inr (.inl o2_37))), (n1, .inl (cJ1, 60, .inr (.inl g1))), (n2, .inl (cJ2, 60, .inr (.inl g2))), (n3, .inl (cJ3, 60, .inr (.inl g3)))]) [0, 1, 2, 3, 4, 5, 6, 7, 8, 9] (by decide) rfl
            have hK9 := hK.sub (tys' := [(cS, .object RX3), (cJ0, .long), (cJ1, .long), (cJ2, .long), (cJ3, .long)]) [0, 1, 2, 3, 4] rfl
            exact W.iret (v := 0) hx hb hr (fun t ht hW => ⟨⟨0, (), rfl, ⟨(rg_w (by decide : (0 : Int) ≤ (0 : Int32).toInt ∧ (0 : Int32).toInt ≤ 0) (by decide) (by decide)), (by have l9 : ((0 : Int32)).toInt = 0 := (by decide); exact ro_0 (by omega) (by omega))⟩, a2, a3, wd1, rz1, wd2, rz2, wd3, rz3, o2_37, g1, g2, g3, (rg_w b_a2 (by decide) (by decide)), b_a3, b_wd1, b_rz1, b_wd2, b_rz2, b_wd3, b_rz3, by rw [ht]; exact hP9, va_K.moved hW.alike hK9, hD9⟩, hS.F ht⟩) hS.2.2 dX9_row_45
          ·
            obtain rfl : a1 = 1 := Int32.toInt_inj.mp (h_34.trans (by decide))
            refine va_aldq hx hb hK hP 1 0 rfl rfl (vp_in_b (by decide : (1 : Int) ≤ (1 : Int32).toInt ∧ (1 : Int32).toInt ≤ 1) (by decide) (by decide)) dX9_row_38 ?_
            refine W.eq (g2 := F0 m 39 ls (.ref s1 :: [])) (congrArg (fun v => F0 m 39 ls (va_rf v :: [])) (sf4_1 s0 s1 s2 s3)) ?_
            refine lv_iload_n hx hb dX9_row_39 rfl (lv_at hl 2 rfl) ?_
            refine lv_iload_n hx hb dX9_row_40 rfl (lv_at hl 3 rfl) ?_
            have hFc := va_free (wc := [(s1, .inr (2, [.int wd1, .int rz1, .ref n1])), (n1, .inl (cJ1, 60, .inr (.inl g1)))]) hD hS hA [3, 7] rfl
            refine va_callv (va_runV (As := [.int a2, .int a3]) (rest := []) ⟨hx, hb, hml, hown, hts⟩ (kX3_begin l dC dI s1 wd1 rz1 n1 cJ1 g1 a2 a3 (s.heap.size) b_wd1 b_rz1 b_a2 b_a3) (cwV 2 hts gX9_rowF__X3_begin_V340 rfl rfl rfl (by decide +kernel) ⟨lel 2 2 rfl, lel 46 46 rfl⟩) ⟨hw_fb, va_recv hK hP (ci := 2) (q0 := 3) rfl rfl, (hw_use hP hD hK hN [3, 7] rfl (by decide) rfl [2] rfl)⟩ rfl rfl hl.1 rfl (lv_room (Nat.le_of_ble_eq_true rfl)) dX9_row_41 ⟨lel 0 0 rfl, lel 0 0 rfl⟩) hS (fun q _ h => hFc q h) hFc (fun u_39 t H1 locs ht hvm hw_r_38 hB hz1 hk1 hS => ?_)
            obtain ⟨o2_40, hP1, hK1, hD1⟩ := hB
            rw [ht] at hP1
            have hK1 := va_K.moved hvm.symm hK1
            obtain ⟨hP, hD⟩ := va_join (wr := [(h0, .inr (7, [.ref tp, .ref sc, .ref rd, .ref cu, .ref im, .ref ig, .ref sl, .ref se, .ref sm, .ref fc])), (sl, .inl (cS, 4, .inr (.inr (.inr (.inr (sf4 s0 s1 s2 s3)))))), (s0, .inr (2, [.int wd0, .int rz0, .ref n0])), (s2, .inr (2, [.int wd2, .int rz2, .ref n2])), (s3, .inr (2, [.int wd3, .int rz3, .ref n3])), (n0, .inl (cJ0, 60, .inr (.inl g0))), (n2, .inl (cJ2, 60, .inr (.inl g2))), (n3, .inl (cJ3, 60, .inr (.inl g3)))]) (w1 := [(s1, .inr (2, [.int a2, .int a3, .ref n1])), (n1, .inl (cJ1, 60, .inr (.inl o2_40)))]) hP hD [3, 7] [0, 1, 2, 4, 5, 6, 8, 9] rfl rfl (by decide) (by decide) hk1 hFc hP1 hD1
            have hK := (hK.sub (tys' := [(cS, .object RX3), (cJ0, .long), (cJ2, .long), (cJ3, .long)]) [0, 1, 3, 4] rfl).app hK1
            generalize H1 = H at hP hS ⊢
            have hP := hP.sub (ws' := [(h0, .inr (7, [.ref tp, .ref sc, .ref rd, .ref cu, .ref im, .ref ig, .ref sl, .ref se, .ref sm, .ref fc])), (sl, .inl (cS, 4, .inr (.inr (.inr (.inr (sf4 s0 s1 s2 s3)))))), (s0, .inr (2, [.int wd0, .int rz0, .ref n0])), (s1, .inr (2, [.int a2, .int a3, .ref n1])), (s2, .inr (2, [.int wd2, .int rz2, .ref n2])), (s3, .inr (2, [.int wd3, .int rz3, .ref n3])), (n0, .inl (cJ0, 60, .inr (.inl g0))), (n1, .inl (cJ1, 60, .inr (.inl o2_40))), (n2, .inl (cJ2, 60, .inr (.inl g2))), (n3, .inl (cJ3, 60, .inr (.inl g3)))]) [0, 1, 2, 8, 3, 4, 5, 9, 6, 7] rfl
            have hD := hD.sub (ws' := [(h0, .inr (7, [.ref tp, .ref sc, .ref rd, .ref cu, .ref im, .ref ig, .ref sl, .ref se, .ref sm, .ref fc])), (sl, .inl (cS, 4, .inr (.inr (.inr (.inr (sf4 s0 s1 s2 s3)))))), (s0, .inr (2, [.int wd0, .int rz0, .ref n0])), (s1, .inr (2, [.int a2, .int a3, .ref n1])), (s2, .inr (2, [.int wd2, .int rz2, .ref n2])), (s3, .inr (2, [.int wd3, .int rz3, .ref n3])), (n0, .inl (cJ0, 60, .inr (.inl g0))), (n1, .inl (cJ1, 60, .inr (.inl o2_40))), (n2, .inl (cJ2, 60, .inr (.inl g2))), (n3, .inl (cJ3, 60, .inr (.inl g3)))]) [0, 1, 2, 8, 3, 4, 5, 9, 6, 7] (by decide) rfl
            have hK := hK.sub (tys' := [(cS, .object RX3), (cJ0, .long), (cJ1, .long), (cJ2, .long), (cJ3, .long)]) [0, 1, 4, 2, 3] rfl
            have hP : va_P (dC, dI) vwCl [(h0, .inr (7, [.ref tp, .ref sc, .ref rd, .ref cu, .ref im, .ref ig, .ref sl, .ref se, .ref sm, .ref fc])), (sl, .inl (cS, 4, .inr (.inr (.inr (.inr (sf4 s0 s1 s2 s3)))))), (s0, .inr (2, [.int wd0, .int rz0, .ref n0])), (s1, .inr (2, [.int a2, .int a3, .ref n1])), (s2, .inr (2, [.int wd2, .int rz2, .ref n2])), (s3, .inr (2, [.int wd3, .int rz3, .ref n3])), (n0, .inl (cJ0, 60, .inr (.inl g0))), (n1, .inl (cJ1, 60, .inr (.inl o2_40))), (n2, .inl (cJ2, 60, .inr (.inl g2))), (n3, .inl (cJ3, 60, .inr (.inl g3)))] H := hP
            have hD : va_D A [(h0, .inr (7, [.ref tp, .ref sc, .ref rd, .ref cu, .ref im, .ref ig, .ref sl, .ref se, .ref sm, .ref fc])), (sl, .inl (cS, 4, .inr (.inr (.inr (.inr (sf4 s0 s1 s2 s3)))))), (s0, .inr (2, [.int wd0, .int rz0, .ref n0])), (s1, .inr (2, [.int a2, .int a3, .ref n1])), (s2, .inr (2, [.int wd2, .int rz2, .ref n2])), (s3, .inr (2, [.int wd3, .int rz3, .ref n3])), (n0, .inl (cJ0, 60, .inr (.inl g0))), (n1, .inl (cJ1, 60, .inr (.inl o2_40))), (n2, .inl (cJ2, 60, .inr (.inl g2))), (n3, .inl (cJ3, 60, .inr (.inl g3)))] := hD
            have hK : va_K (dC, dI) vwCl [(cS, .object RX3), (cJ0, .long), (cJ1, .long), (cJ2, .long), (cJ3, .long)] s := hK
            refine lv_iconst (v := 0) hx hb dX9_row_44 (by decide) ?_
            have hP9 := hP.sub (ws' := [(h0, .inr (7, [.ref tp, .ref sc, .ref rd, .ref cu, .ref im, .ref ig, .ref sl, .ref se, .ref sm, .ref fc])), (sl, .inl (cS, 4, .inr (.inr (.inr (.inr (sf4 s0 s1 s2 s3)))))), (s0, .inr (2, [.int wd0, .int rz0, .ref n0])), (s1, .inr (2, [.int a2, .int a3, .ref n1])), (s2, .inr (2, [.int wd2, .int rz2, .ref n2])), (s3, .inr (2, [.int wd3, .int rz3, .ref n3])), (n0, .inl (cJ0, 60, .inr (.inl g0))), (n1, .inl (cJ1, 60, .inr (.inl o2_40))), (n2, .inl (cJ2, 60, .inr (.inl g2))), (n3, .inl (cJ3, 60, .inr (.inl g3)))]) [0, 1, 2, 3, 4, 5, 6, 7, 8, 9] rfl
            have hD9 := hD.sub (ws' := [(h0, .inr (7, [.ref tp, .ref sc, .ref rd, .ref cu, .ref im, .ref ig, .ref sl, .ref se, .ref sm, .ref fc])), (sl, .inl (cS, 4, .inr (.inr (.inr (.inr (sf4 s0 s1 s2 s3)))))), (s0, .inr (2, [.int wd0, .int rz0, .ref n0])), (s1, .inr (2, [.int a2, .int a3, .ref n1])), (s2, .inr (2, [.int wd2, .int rz2, .ref n2])), (s3, .inr (2, [.int wd3, .int rz3, .ref n3])), (n0, .inl (cJ0, 60, .inr (.inl g0))), (n1, .inl (cJ1, 60, .inr (.inl o2_40))), (n2, .inl (cJ2, 60, .inr (.inl g2))), (n3, .inl (cJ3, 60, .inr (.inl g3)))]) [0, 1, 2, 3, 4, 5, 6, 7, 8, 9] (by decide) rfl
            have hK9 := hK.sub (tys' := [(cS, .object RX3), (cJ0, .long), (cJ1, .long), (cJ2, .long), (cJ3, .long)]) [0, 1, 2, 3, 4] rfl
            exact W.iret (v := 0) hx hb hr (fun t ht hW => ⟨⟨0, (), rfl, ⟨(rg_w (by decide : (0 : Int) ≤ (0 : Int32).toInt ∧ (0 : Int32).toInt ≤ 0) (by decide) (by decide)), (by have l9 : ((1 : Int32)).toInt = 1 := (by decide); exact ro_0 (by omega) (by omega))⟩, wd0, rz0, a2, a3, wd2, rz2, wd3, rz3, g0, o2_40, g2, g3, b_wd0, b_rz0, (rg_w b_a2 (by decide) (by decide)), b_a3, b_wd2, b_rz2, b_wd3, b_rz3, by rw [ht]; exact hP9, va_K.moved hW.alike hK9, hD9⟩, hS.F ht⟩) hS.2.2 dX9_row_45
          ·
            obtain rfl : a1 = 2 := Int32.toInt_inj.mp (h_34.trans (by decide))
            refine va_aldq hx hb hK hP 1 0 rfl rfl (vp_in_b (by decide : (2 : Int) ≤ (2 : Int32).toInt ∧ (2 : Int32).toInt ≤ 2) (by decide) (by decide)) dX9_row_38 ?_
            refine W.eq (g2 := F0 m 39 ls (.ref s2 :: [])) (congrArg (fun v => F0 m 39 ls (va_rf v :: [])) (sf4_2 s0 s1 s2 s3)) ?_
            refine lv_iload_n hx hb dX9_row_39 rfl (lv_at hl 2 rfl) ?_
            refine lv_iload_n hx hb dX9_row_40 rfl (lv_at hl 3 rfl) ?_
            have hFc := va_free (wc := [(s2, .inr (2, [.int wd2, .int rz2, .ref n2])), (n2, .inl (cJ2, 60, .inr (.inl g2)))]) hD hS hA [4, 8] rfl
            refine va_callv (va_runV (As := [.int a2, .int a3]) (rest := []) ⟨hx, hb, hml, hown, hts⟩ (kX3_begin l dC dI s2 wd2 rz2 n2 cJ2 g2 a2 a3 (s.heap.size) b_wd2 b_rz2 b_a2 b_a3) (cwV 2 hts gX9_rowF__X3_begin_V340 rfl rfl rfl (by decide +kernel) ⟨lel 2 2 rfl, lel 46 46 rfl⟩) ⟨hw_fb, va_recv hK hP (ci := 2) (q0 := 4) rfl rfl, (hw_use hP hD hK hN [4, 8] rfl (by decide) rfl [3] rfl)⟩ rfl rfl hl.1 rfl (lv_room (Nat.le_of_ble_eq_true rfl)) dX9_row_41 ⟨lel 0 0 rfl, lel 0 0 rfl⟩) hS (fun q _ h => hFc q h) hFc (fun u_42 t H1 locs ht hvm hw_r_41 hB hz1 hk1 hS => ?_)
            obtain ⟨o2_43, hP1, hK1, hD1⟩ := hB
            rw [ht] at hP1
            have hK1 := va_K.moved hvm.symm hK1
            obtain ⟨hP, hD⟩ := va_join (wr := [(h0, .inr (7, [.ref tp, .ref sc, .ref rd, .ref cu, .ref im, .ref ig, .ref sl, .ref se, .ref sm, .ref fc])), (sl, .inl (cS, 4, .inr (.inr (.inr (.inr (sf4 s0 s1 s2 s3)))))), (s0, .inr (2, [.int wd0, .int rz0, .ref n0])), (s1, .inr (2, [.int wd1, .int rz1, .ref n1])), (s3, .inr (2, [.int wd3, .int rz3, .ref n3])), (n0, .inl (cJ0, 60, .inr (.inl g0))), (n1, .inl (cJ1, 60, .inr (.inl g1))), (n3, .inl (cJ3, 60, .inr (.inl g3)))]) (w1 := [(s2, .inr (2, [.int a2, .int a3, .ref n2])), (n2, .inl (cJ2, 60, .inr (.inl o2_43)))]) hP hD [4, 8] [0, 1, 2, 3, 5, 6, 7, 9] rfl rfl (by decide) (by decide) hk1 hFc hP1 hD1
            have hK := (hK.sub (tys' := [(cS, .object RX3), (cJ0, .long), (cJ1, .long), (cJ3, .long)]) [0, 1, 2, 4] rfl).app hK1
            generalize H1 = H at hP hS ⊢
            have hP := hP.sub (ws' := [(h0, .inr (7, [.ref tp, .ref sc, .ref rd, .ref cu, .ref im, .ref ig, .ref sl, .ref se, .ref sm, .ref fc])), (sl, .inl (cS, 4, .inr (.inr (.inr (.inr (sf4 s0 s1 s2 s3)))))), (s0, .inr (2, [.int wd0, .int rz0, .ref n0])), (s1, .inr (2, [.int wd1, .int rz1, .ref n1])), (s2, .inr (2, [.int a2, .int a3, .ref n2])), (s3, .inr (2, [.int wd3, .int rz3, .ref n3])), (n0, .inl (cJ0, 60, .inr (.inl g0))), (n1, .inl (cJ1, 60, .inr (.inl g1))), (n2, .inl (cJ2, 60, .inr (.inl o2_43))), (n3, .inl (cJ3, 60, .inr (.inl g3)))]) [0, 1, 2, 3, 8, 4, 5, 6, 9, 7] rfl
            have hD := hD.sub (ws' := [(h0, .inr (7, [.ref tp, .ref sc, .ref rd, .ref cu, .ref im, .ref ig, .ref sl, .ref se, .ref sm, .ref fc])), (sl, .inl (cS, 4, .inr (.inr (.inr (.inr (sf4 s0 s1 s2 s3)))))), (s0, .inr (2, [.int wd0, .int rz0, .ref n0])), (s1, .inr (2, [.int wd1, .int rz1, .ref n1])), (s2, .inr (2, [.int a2, .int a3, .ref n2])), (s3, .inr (2, [.int wd3, .int rz3, .ref n3])), (n0, .inl (cJ0, 60, .inr (.inl g0))), (n1, .inl (cJ1, 60, .inr (.inl g1))), (n2, .inl (cJ2, 60, .inr (.inl o2_43))), (n3, .inl (cJ3, 60, .inr (.inl g3)))]) [0, 1, 2, 3, 8, 4, 5, 6, 9, 7] (by decide) rfl
            have hK := hK.sub (tys' := [(cS, .object RX3), (cJ0, .long), (cJ1, .long), (cJ2, .long), (cJ3, .long)]) [0, 1, 2, 4, 3] rfl
            have hP : va_P (dC, dI) vwCl [(h0, .inr (7, [.ref tp, .ref sc, .ref rd, .ref cu, .ref im, .ref ig, .ref sl, .ref se, .ref sm, .ref fc])), (sl, .inl (cS, 4, .inr (.inr (.inr (.inr (sf4 s0 s1 s2 s3)))))), (s0, .inr (2, [.int wd0, .int rz0, .ref n0])), (s1, .inr (2, [.int wd1, .int rz1, .ref n1])), (s2, .inr (2, [.int a2, .int a3, .ref n2])), (s3, .inr (2, [.int wd3, .int rz3, .ref n3])), (n0, .inl (cJ0, 60, .inr (.inl g0))), (n1, .inl (cJ1, 60, .inr (.inl g1))), (n2, .inl (cJ2, 60, .inr (.inl o2_43))), (n3, .inl (cJ3, 60, .inr (.inl g3)))] H := hP
            have hD : va_D A [(h0, .inr (7, [.ref tp, .ref sc, .ref rd, .ref cu, .ref im, .ref ig, .ref sl, .ref se, .ref sm, .ref fc])), (sl, .inl (cS, 4, .inr (.inr (.inr (.inr (sf4 s0 s1 s2 s3)))))), (s0, .inr (2, [.int wd0, .int rz0, .ref n0])), (s1, .inr (2, [.int wd1, .int rz1, .ref n1])), (s2, .inr (2, [.int a2, .int a3, .ref n2])), (s3, .inr (2, [.int wd3, .int rz3, .ref n3])), (n0, .inl (cJ0, 60, .inr (.inl g0))), (n1, .inl (cJ1, 60, .inr (.inl g1))), (n2, .inl (cJ2, 60, .inr (.inl o2_43))), (n3, .inl (cJ3, 60, .inr (.inl g3)))] := hD
            have hK : va_K (dC, dI) vwCl [(cS, .object RX3), (cJ0, .long), (cJ1, .long), (cJ2, .long), (cJ3, .long)] s := hK
            refine lv_iconst (v := 0) hx hb dX9_row_44 (by decide) ?_
            have hP9 := hP.sub (ws' := [(h0, .inr (7, [.ref tp, .ref sc, .ref rd, .ref cu, .ref im, .ref ig, .ref sl, .ref se, .ref sm, .ref fc])), (sl, .inl (cS, 4, .inr (.inr (.inr (.inr (sf4 s0 s1 s2 s3)))))), (s0, .inr (2, [.int wd0, .int rz0, .ref n0])), (s1, .inr (2, [.int wd1, .int rz1, .ref n1])), (s2, .inr (2, [.int a2, .int a3, .ref n2])), (s3, .inr (2, [.int wd3, .int rz3, .ref n3])), (n0, .inl (cJ0, 60, .inr (.inl g0))), (n1, .inl (cJ1, 60, .inr (.inl g1))), (n2, .inl (cJ2, 60, .inr (.inl o2_43))), (n3, .inl (cJ3, 60, .inr (.inl g3)))]) [0, 1, 2, 3, 4, 5, 6, 7, 8, 9] rfl
            have hD9 := hD.sub (ws' := [(h0, .inr (7, [.ref tp, .ref sc, .ref rd, .ref cu, .ref im, .ref ig, .ref sl, .ref se, .ref sm, .ref fc])), (sl, .inl (cS, 4, .inr (.inr (.inr (.inr (sf4 s0 s1 s2 s3)))))), (s0, .inr (2, [.int wd0, .int rz0, .ref n0])), (s1, .inr (2, [.int wd1, .int rz1, .ref n1])), (s2, .inr (2, [.int a2, .int a3, .ref n2])), (s3, .inr (2, [.int wd3, .int rz3, .ref n3])), (n0, .inl (cJ0, 60, .inr (.inl g0))), (n1, .inl (cJ1, 60, .inr (.inl g1))), (n2, .inl (cJ2, 60, .inr (.inl o2_43))), (n3, .inl (cJ3, 60, .inr (.inl g3)))]) [0, 1, 2, 3, 4, 5, 6, 7, 8, 9] (by decide) rfl
            have hK9 := hK.sub (tys' := [(cS, .object RX3), (cJ0, .long), (cJ1, .long), (cJ2, .long), (cJ3, .long)]) [0, 1, 2, 3, 4] rfl
            exact W.iret (v := 0) hx hb hr (fun t ht hW => ⟨⟨0, (), rfl, ⟨(rg_w (by decide : (0 : Int) ≤ (0 : Int32).toInt ∧ (0 : Int32).toInt ≤ 0) (by decide) (by decide)), (by have l9 : ((2 : Int32)).toInt = 2 := (by decide); exact ro_0 (by omega) (by omega))⟩, wd0, rz0, wd1, rz1, a2, a3, wd3, rz3, g0, g1, o2_43, g3, b_wd0, b_rz0, b_wd1, b_rz1, (rg_w b_a2 (by decide) (by decide)), b_a3, b_wd3, b_rz3, by rw [ht]; exact hP9, va_K.moved hW.alike hK9, hD9⟩, hS.F ht⟩) hS.2.2 dX9_row_45
          ·
            obtain rfl : a1 = 3 := Int32.toInt_inj.mp (h_34.trans (by decide))
            refine va_aldq hx hb hK hP 1 0 rfl rfl (vp_in_b (by decide : (3 : Int) ≤ (3 : Int32).toInt ∧ (3 : Int32).toInt ≤ 3) (by decide) (by decide)) dX9_row_38 ?_
            refine W.eq (g2 := F0 m 39 ls (.ref s3 :: [])) (congrArg (fun v => F0 m 39 ls (va_rf v :: [])) (sf4_3 s0 s1 s2 s3)) ?_
            refine lv_iload_n hx hb dX9_row_39 rfl (lv_at hl 2 rfl) ?_
            refine lv_iload_n hx hb dX9_row_40 rfl (lv_at hl 3 rfl) ?_
            have hFc := va_free (wc := [(s3, .inr (2, [.int wd3, .int rz3, .ref n3])), (n3, .inl (cJ3, 60, .inr (.inl g3)))]) hD hS hA [5, 9] rfl
            refine va_callv (va_runV (As := [.int a2, .int a3]) (rest := []) ⟨hx, hb, hml, hown, hts⟩ (kX3_begin l dC dI s3 wd3 rz3 n3 cJ3 g3 a2 a3 (s.heap.size) b_wd3 b_rz3 b_a2 b_a3) (cwV 2 hts gX9_rowF__X3_begin_V340 rfl rfl rfl (by decide +kernel) ⟨lel 2 2 rfl, lel 46 46 rfl⟩) ⟨hw_fb, va_recv hK hP (ci := 2) (q0 := 5) rfl rfl, (hw_use hP hD hK hN [5, 9] rfl (by decide) rfl [4] rfl)⟩ rfl rfl hl.1 rfl (lv_room (Nat.le_of_ble_eq_true rfl)) dX9_row_41 ⟨lel 0 0 rfl, lel 0 0 rfl⟩) hS (fun q _ h => hFc q h) hFc (fun u_45 t H1 locs ht hvm hw_r_44 hB hz1 hk1 hS => ?_)
            obtain ⟨o2_46, hP1, hK1, hD1⟩ := hB
            rw [ht] at hP1
            have hK1 := va_K.moved hvm.symm hK1
            obtain ⟨hP, hD⟩ := va_join (wr := [(h0, .inr (7, [.ref tp, .ref sc, .ref rd, .ref cu, .ref im, .ref ig, .ref sl, .ref se, .ref sm, .ref fc])), (sl, .inl (cS, 4, .inr (.inr (.inr (.inr (sf4 s0 s1 s2 s3)))))), (s0, .inr (2, [.int wd0, .int rz0, .ref n0])), (s1, .inr (2, [.int wd1, .int rz1, .ref n1])), (s2, .inr (2, [.int wd2, .int rz2, .ref n2])), (n0, .inl (cJ0, 60, .inr (.inl g0))), (n1, .inl (cJ1, 60, .inr (.inl g1))), (n2, .inl (cJ2, 60, .inr (.inl g2)))]) (w1 := [(s3, .inr (2, [.int a2, .int a3, .ref n3])), (n3, .inl (cJ3, 60, .inr (.inl o2_46)))]) hP hD [5, 9] [0, 1, 2, 3, 4, 6, 7, 8] rfl rfl (by decide) (by decide) hk1 hFc hP1 hD1
            have hK := (hK.sub (tys' := [(cS, .object RX3), (cJ0, .long), (cJ1, .long), (cJ2, .long)]) [0, 1, 2, 3] rfl).app hK1
            generalize H1 = H at hP hS ⊢
            have hP := hP.sub (ws' := [(h0, .inr (7, [.ref tp, .ref sc, .ref rd, .ref cu, .ref im, .ref ig, .ref sl, .ref se, .ref sm, .ref fc])), (sl, .inl (cS, 4, .inr (.inr (.inr (.inr (sf4 s0 s1 s2 s3)))))), (s0, .inr (2, [.int wd0, .int rz0, .ref n0])), (s1, .inr (2, [.int wd1, .int rz1, .ref n1])), (s2, .inr (2, [.int wd2, .int rz2, .ref n2])), (s3, .inr (2, [.int a2, .int a3, .ref n3])), (n0, .inl (cJ0, 60, .inr (.inl g0))), (n1, .inl (cJ1, 60, .inr (.inl g1))), (n2, .inl (cJ2, 60, .inr (.inl g2))), (n3, .inl (cJ3, 60, .inr (.inl o2_46)))]) [0, 1, 2, 3, 4, 8, 5, 6, 7, 9] rfl
            have hD := hD.sub (ws' := [(h0, .inr (7, [.ref tp, .ref sc, .ref rd, .ref cu, .ref im, .ref ig, .ref sl, .ref se, .ref sm, .ref fc])), (sl, .inl (cS, 4, .inr (.inr (.inr (.inr (sf4 s0 s1 s2 s3)))))), (s0, .inr (2, [.int wd0, .int rz0, .ref n0])), (s1, .inr (2, [.int wd1, .int rz1, .ref n1])), (s2, .inr (2, [.int wd2, .int rz2, .ref n2])), (s3, .inr (2, [.int a2, .int a3, .ref n3])), (n0, .inl (cJ0, 60, .inr (.inl g0))), (n1, .inl (cJ1, 60, .inr (.inl g1))), (n2, .inl (cJ2, 60, .inr (.inl g2))), (n3, .inl (cJ3, 60, .inr (.inl o2_46)))]) [0, 1, 2, 3, 4, 8, 5, 6, 7, 9] (by decide) rfl
            have hP : va_P (dC, dI) vwCl [(h0, .inr (7, [.ref tp, .ref sc, .ref rd, .ref cu, .ref im, .ref ig, .ref sl, .ref se, .ref sm, .ref fc])), (sl, .inl (cS, 4, .inr (.inr (.inr (.inr (sf4 s0 s1 s2 s3)))))), (s0, .inr (2, [.int wd0, .int rz0, .ref n0])), (s1, .inr (2, [.int wd1, .int rz1, .ref n1])), (s2, .inr (2, [.int wd2, .int rz2, .ref n2])), (s3, .inr (2, [.int a2, .int a3, .ref n3])), (n0, .inl (cJ0, 60, .inr (.inl g0))), (n1, .inl (cJ1, 60, .inr (.inl g1))), (n2, .inl (cJ2, 60, .inr (.inl g2))), (n3, .inl (cJ3, 60, .inr (.inl o2_46)))] H := hP
            have hD : va_D A [(h0, .inr (7, [.ref tp, .ref sc, .ref rd, .ref cu, .ref im, .ref ig, .ref sl, .ref se, .ref sm, .ref fc])), (sl, .inl (cS, 4, .inr (.inr (.inr (.inr (sf4 s0 s1 s2 s3)))))), (s0, .inr (2, [.int wd0, .int rz0, .ref n0])), (s1, .inr (2, [.int wd1, .int rz1, .ref n1])), (s2, .inr (2, [.int wd2, .int rz2, .ref n2])), (s3, .inr (2, [.int a2, .int a3, .ref n3])), (n0, .inl (cJ0, 60, .inr (.inl g0))), (n1, .inl (cJ1, 60, .inr (.inl g1))), (n2, .inl (cJ2, 60, .inr (.inl g2))), (n3, .inl (cJ3, 60, .inr (.inl o2_46)))] := hD
            have hK : va_K (dC, dI) vwCl [(cS, .object RX3), (cJ0, .long), (cJ1, .long), (cJ2, .long), (cJ3, .long)] s := hK
            refine lv_iconst (v := 0) hx hb dX9_row_44 (by decide) ?_
            have hP9 := hP.sub (ws' := [(h0, .inr (7, [.ref tp, .ref sc, .ref rd, .ref cu, .ref im, .ref ig, .ref sl, .ref se, .ref sm, .ref fc])), (sl, .inl (cS, 4, .inr (.inr (.inr (.inr (sf4 s0 s1 s2 s3)))))), (s0, .inr (2, [.int wd0, .int rz0, .ref n0])), (s1, .inr (2, [.int wd1, .int rz1, .ref n1])), (s2, .inr (2, [.int wd2, .int rz2, .ref n2])), (s3, .inr (2, [.int a2, .int a3, .ref n3])), (n0, .inl (cJ0, 60, .inr (.inl g0))), (n1, .inl (cJ1, 60, .inr (.inl g1))), (n2, .inl (cJ2, 60, .inr (.inl g2))), (n3, .inl (cJ3, 60, .inr (.inl o2_46)))]) [0, 1, 2, 3, 4, 5, 6, 7, 8, 9] rfl
            have hD9 := hD.sub (ws' := [(h0, .inr (7, [.ref tp, .ref sc, .ref rd, .ref cu, .ref im, .ref ig, .ref sl, .ref se, .ref sm, .ref fc])), (sl, .inl (cS, 4, .inr (.inr (.inr (.inr (sf4 s0 s1 s2 s3)))))), (s0, .inr (2, [.int wd0, .int rz0, .ref n0])), (s1, .inr (2, [.int wd1, .int rz1, .ref n1])), (s2, .inr (2, [.int wd2, .int rz2, .ref n2])), (s3, .inr (2, [.int a2, .int a3, .ref n3])), (n0, .inl (cJ0, 60, .inr (.inl g0))), (n1, .inl (cJ1, 60, .inr (.inl g1))), (n2, .inl (cJ2, 60, .inr (.inl g2))), (n3, .inl (cJ3, 60, .inr (.inl o2_46)))]) [0, 1, 2, 3, 4, 5, 6, 7, 8, 9] (by decide) rfl
            have hK9 := hK.sub (tys' := [(cS, .object RX3), (cJ0, .long), (cJ1, .long), (cJ2, .long), (cJ3, .long)]) [0, 1, 2, 3, 4] rfl
            exact W.iret (v := 0) hx hb hr (fun t ht hW => ⟨⟨0, (), rfl, ⟨(rg_w (by decide : (0 : Int) ≤ (0 : Int32).toInt ∧ (0 : Int32).toInt ≤ 0) (by decide) (by decide)), (by have l9 : ((3 : Int32)).toInt = 3 := (by decide); exact ro_0 (by omega) (by omega))⟩, wd0, rz0, wd1, rz1, wd2, rz2, a2, a3, g0, g1, g2, o2_46, b_wd0, b_rz0, b_wd1, b_rz1, b_wd2, b_rz2, (rg_w b_a2 (by decide) (by decide)), b_a3, by rw [ht]; exact hP9, va_K.moved hW.alike hK9, hD9⟩, hS.F ht⟩) hS.2.2 dX9_row_45
        ·
          have n_c_33 : (a3.toInt : Int) < 0 := c_nge rfl (by decide) c_33
          have b_a3 : (-2147483648 : Int) ≤ a3.toInt ∧ a3.toInt ≤ -1 := r_lt1 b_a3 (by decide : (0 : Int) ≤ (0 : Int32).toInt ∧ (0 : Int32).toInt ≤ 0) n_c_33 (by decide)
          refine lv_bipush (v := (-3)) hx hb dX9_row_30 (by decide) ?_
          have hP9 := hP.sub (ws' := [(h0, .inr (7, [.ref tp, .ref sc, .ref rd, .ref cu, .ref im, .ref ig, .ref sl, .ref se, .ref sm, .ref fc])), (sl, .inl (cS, 4, .inr (.inr (.inr (.inr (sf4 s0 s1 s2 s3)))))), (s0, .inr (2, [.int wd0, .int rz0, .ref n0])), (s1, .inr (2, [.int wd1, .int rz1, .ref n1])), (s2, .inr (2, [.int wd2, .int rz2, .ref n2])), (s3, .inr (2, [.int wd3, .int rz3, .ref n3])), (n0, .inl (cJ0, 60, .inr (.inl g0))), (n1, .inl (cJ1, 60, .inr (.inl g1))), (n2, .inl (cJ2, 60, .inr (.inl g2))), (n3, .inl (cJ3, 60, .inr (.inl g3)))]) [0, 1, 2, 3, 4, 5, 6, 7, 8, 9] rfl
          have hD9 := hD.sub (ws' := [(h0, .inr (7, [.ref tp, .ref sc, .ref rd, .ref cu, .ref im, .ref ig, .ref sl, .ref se, .ref sm, .ref fc])), (sl, .inl (cS, 4, .inr (.inr (.inr (.inr (sf4 s0 s1 s2 s3)))))), (s0, .inr (2, [.int wd0, .int rz0, .ref n0])), (s1, .inr (2, [.int wd1, .int rz1, .ref n1])), (s2, .inr (2, [.int wd2, .int rz2, .ref n2])), (s3, .inr (2, [.int wd3, .int rz3, .ref n3])), (n0, .inl (cJ0, 60, .inr (.inl g0))), (n1, .inl (cJ1, 60, .inr (.inl g1))), (n2, .inl (cJ2, 60, .inr (.inl g2))), (n3, .inl (cJ3, 60, .inr (.inl g3)))]) [0, 1, 2, 3, 4, 5, 6, 7, 8, 9] (by decide) rfl
          have hK9 := hK.sub (tys' := [(cS, .object RX3), (cJ0, .long), (cJ1, .long), (cJ2, .long), (cJ3, .long)]) [0, 1, 2, 3, 4] rfl
          exact W.iret (v := (-3)) hx hb hr (fun t ht hW => ⟨⟨(-3), (), rfl, ⟨(rg_w (by decide : (-3 : Int) ≤ ((-3) : Int32).toInt ∧ ((-3) : Int32).toInt ≤ -3) (by decide) (by decide)), (ro_3 (by omega) (by omega))⟩, wd0, rz0, wd1, rz1, wd2, rz2, wd3, rz3, g0, g1, g2, g3, b_wd0, b_rz0, b_wd1, b_rz1, b_wd2, b_rz2, b_wd3, b_rz3, by rw [ht]; exact hP9, va_K.moved hW.alike hK9, hD9⟩, hS.F ht⟩) hS.2.2 dX9_row_32
      ·
        have n_c_32 : (60 : Int) < a3.toInt := c_nle rfl (by decide) c_32
        have b_a3 : (61 : Int) ≤ a3.toInt ∧ a3.toInt ≤ 2147483647 := r_lt2 (by decide : (60 : Int) ≤ (60 : Int32).toInt ∧ (60 : Int32).toInt ≤ 60) (ti_rng a3) n_c_32 (by decide)
        refine lv_bipush (v := (-2)) hx hb dX9_row_23 (by decide) ?_
        have hP9 := hP.sub (ws' := [(h0, .inr (7, [.ref tp, .ref sc, .ref rd, .ref cu, .ref im, .ref ig, .ref sl, .ref se, .ref sm, .ref fc])), (sl, .inl (cS, 4, .inr (.inr (.inr (.inr (sf4 s0 s1 s2 s3)))))), (s0, .inr (2, [.int wd0, .int rz0, .ref n0])), (s1, .inr (2, [.int wd1, .int rz1, .ref n1])), (s2, .inr (2, [.int wd2, .int rz2, .ref n2])), (s3, .inr (2, [.int wd3, .int rz3, .ref n3])), (n0, .inl (cJ0, 60, .inr (.inl g0))), (n1, .inl (cJ1, 60, .inr (.inl g1))), (n2, .inl (cJ2, 60, .inr (.inl g2))), (n3, .inl (cJ3, 60, .inr (.inl g3)))]) [0, 1, 2, 3, 4, 5, 6, 7, 8, 9] rfl
        have hD9 := hD.sub (ws' := [(h0, .inr (7, [.ref tp, .ref sc, .ref rd, .ref cu, .ref im, .ref ig, .ref sl, .ref se, .ref sm, .ref fc])), (sl, .inl (cS, 4, .inr (.inr (.inr (.inr (sf4 s0 s1 s2 s3)))))), (s0, .inr (2, [.int wd0, .int rz0, .ref n0])), (s1, .inr (2, [.int wd1, .int rz1, .ref n1])), (s2, .inr (2, [.int wd2, .int rz2, .ref n2])), (s3, .inr (2, [.int wd3, .int rz3, .ref n3])), (n0, .inl (cJ0, 60, .inr (.inl g0))), (n1, .inl (cJ1, 60, .inr (.inl g1))), (n2, .inl (cJ2, 60, .inr (.inl g2))), (n3, .inl (cJ3, 60, .inr (.inl g3)))]) [0, 1, 2, 3, 4, 5, 6, 7, 8, 9] (by decide) rfl
        have hK9 := hK.sub (tys' := [(cS, .object RX3), (cJ0, .long), (cJ1, .long), (cJ2, .long), (cJ3, .long)]) [0, 1, 2, 3, 4] rfl
        exact W.iret (v := (-2)) hx hb hr (fun t ht hW => ⟨⟨(-2), (), rfl, ⟨(rg_w (by decide : (-2 : Int) ≤ ((-2) : Int32).toInt ∧ ((-2) : Int32).toInt ≤ -2) (by decide) (by decide)), (ro_2 (by omega))⟩, wd0, rz0, wd1, rz1, wd2, rz2, wd3, rz3, g0, g1, g2, g3, b_wd0, b_rz0, b_wd1, b_rz1, b_wd2, b_rz2, b_wd3, b_rz3, by rw [ht]; exact hP9, va_K.moved hW.alike hK9, hD9⟩, hS.F ht⟩) hS.2.2 dX9_row_25
def uX10_isSlot2 : List Cond := .code yX10_isSlot cX10_isSlot 1 (some .boolean) :: ([.constantLong RX10 375 (3), .methodLink RX10 82 yX10_in, .static yX10_in, .initialized RX10, .code yX10_in cX10_in 6 (some .boolean)])
set_option maxRecDepth 20000 in
theorem gX10_isSlot2__X10_in2_S82 : GoodIn uX10_isSlot2 (va_wsS RX10 82 yX10_in uX10_in2) := goodIn_p _ [5] rfl (by decide +kernel)
set_option maxHeartbeats 4000000 in
set_option maxRecDepth 100000 in
theorem kX10_isSlot2 (l : Launch) (dC : Nat → ClassId) (dI : Nat → Nat → Nat) (a1 : Int32) : Met l yX10_isSlot uX10_isSlot2 ({ frames := 1, cells := 0, slots := 0, locals := 25 }) (va_Pc [.int a1] (fun _ => True)) (vp_Si (fun r => ((0 : Int) ≤ r.toInt ∧ r.toInt ≤ 1) ∧ (r ≠ 0 → ((0 : Int) ≤ a1.toInt ∧ a1.toInt ≤ 3) ∧ (True)) ∧ (r = 0 → (¬ (0 ≤ a1.toInt ∧ a1.toInt ≤ 3))))) 0 0 (fun _ => False) := by
  refine Met.ofW (cc := cX10_isSlot) (maxL := 1) (ret := (some .boolean)) (by decide) rfl ?_
  intro p e s m args below meth c s₁ B hml hv
  obtain ⟨rfl, _⟩ := hv
  have hx := B.exec
  have hb := B.bytes
  have hr := B.returns
  have hts := atoms_spec (ws := uX10_isSlot2) B.pre
  have hown : s.vm.findClass RX10 = some m.cls := findClass_of_methodNamed B.named
  have hlocks := B.notSynchronized
  have hl := lv_entry ([.int a1]) (n := 1) (Nat.le_of_ble_eq_true rfl)
  rw [lg_entry_eq]
  generalize (lg_sl ([.int a1]) ++ List.replicate (1 - (lg_sl ([.int a1])).length) Slot.unset).toArray = ls at hl ⊢
  have hl : lv_has ls 1 [(0, .int a1)] := hl
  refine lv_iload_n hx hb dX10_isSlot_0 rfl (lv_at hl 0 rfl) ?_
  obtain ⟨z_3, e_z_3⟩ : ∃ y : Int64, y = a1.toInt64 := ⟨_, rfl⟩
  refine lv_i2l (v := z_3) hx hb dX10_isSlot_1 e_z_3.symm ?_
  obtain ⟨q_z_3, b_z_3⟩ := ti_i2l e_z_3 (ti_rng a1)
  refine lv_lconst (v := 0) hx hb dX10_isSlot_2 (by decide) ?_
  refine lv_ldc2 (v := 3) hx hb hown (hts (.constantLong RX10 375 (3)) (List.mem_of_getElem? (i := 1) rfl)) dX10_isSlot_3 ?_
  refine vp_callSi (W.runS (As := [.long z_3, .long 0, .long 3]) (rest := []) ⟨hx, hb, hml, hown, hts⟩ (kX10_in2 l dC dI z_3 0 3 ) (va_cwS 3 hts gX10_isSlot2__X10_in2_S82 rfl rfl rfl (by decide +kernel) ⟨lel 1 1 rfl, lel 25 25 rfl⟩) ⟨pn_fb, pn_use⟩ rfl rfl hl.1 rfl (lv_room (Nat.le_of_ble_eq_true rfl)) dX10_isSlot_6 ⟨lel 0 0 rfl, lel 0 0 rfl⟩) (fun r_4 h_r_4 => ?_)
  obtain ⟨b_r_4, nz_r_4, zz_r_4⟩ := h_r_4
  have b_r_4 : (0 : Int) ≤ r_4.toInt ∧ r_4.toInt ≤ 1 := b_r_4
  exact W.zret (v := r_4) hx hb hr (zn_b b_r_4) (fun t ht hW => ⟨r_4, rfl, ⟨b_r_4, (fun h9 => by have h8 := nz_r_4 h9; have h7 := (by decide : (0 : Int64).toInt = 0); have h7 := (by decide : (3 : Int64).toInt = 3); exact ⟨⟨by omega, by omega⟩, trivial⟩), (fun h9 => by have h8 := zz_r_4 h9; have h7 := (by decide : (0 : Int64).toInt = 0); have h7 := (by decide : (3 : Int64).toInt = 3); exact (by omega))⟩, ht⟩) t_nil dX10_isSlot_9
def uX10_rowF : List Cond := .code yX10_row cX10_row 5 (some .int) :: ([.methodLink RX10 369 yX10_isSlot, .static yX10_isSlot, .initialized RX10, .code yX10_isSlot cX10_isSlot 1 (some .boolean), .constantLong RX10 375 (3), .methodLink RX10 82 yX10_in, .static yX10_in, .code yX10_in cX10_in 6 (some .boolean), .fieldLink RX10 65 "LuckyTicketModel" "many" "[I", .fieldLink RX10 68 "LuckyTicketModel" "width" "[I", .fieldLink RX10 71 "LuckyTicketModel" "numbers" "[J"] ++ wsX100)
theorem iX10_rowF_X10 : ∀ w ∈ wsX100, w ∈ uX10_rowF := fun _ h => List.mem_cons_of_mem _ (List.mem_append_right _ h)
set_option maxRecDepth 20000 in
theorem gX10_rowF__X10_isSlot2_S369 : GoodIn uX10_rowF (va_wsS RX10 369 yX10_isSlot uX10_isSlot2) := goodIn_p _ [4, 8] rfl (by decide +kernel)
set_option maxRecDepth 20000 in
theorem gX10_rowF__X10_in2_S82 : GoodIn uX10_rowF (va_wsS RX10 82 yX10_in uX10_in2) := goodIn_p _ [8] rfl (by decide +kernel)
set_option maxHeartbeats 4000000 in
set_option maxRecDepth 100000 in
theorem kX10_rowF (l : Launch) (dC : Nat → ClassId) (dI : Nat → Nat → Nat) (o0 : Nat) (x_th : Int32) (mwo : Nat) (mim : Nat) (mhi : Nat) (mlu : Nat) (mtp : Nat) (x_td : Int32) (mfv : Nat) (x_sz : Int32) (x_at : Int32) (x_fr : Int32) (x_to : Int32) (x_va : Int32) (x_fk : Int32) (x_fp : Int32) (mfr : Nat) (mwt : Nat) (x_wt : Int32) (x_op : Int32) (x_jo : Int32) (mfg : Nat) (mpl : Nat) (x_dr : Int64) (mtm : Nat) (mfa : Nat) (mqu : Nat) (mmo : Nat) (mwy : Nat) (mwn : Nat) (mma : Nat) (mwi : Nat) (mnu : Nat) (mmv : Nat) (c_ma : ClassId) (c_wi : ClassId) (c_nu : ClassId) (w_ma : Nat → Int32) (w_wi : Nat → Int32) (w_nu : Nat → Int64) (a1 : Int32) (a2 : Int32) (a3 : Int32) (sz : Nat) (ha_mma : rg w_ma 4 (-1) 60) (ha_mwi : rg w_wi 4 0 3) : Met l yX10_row uX10_rowF ({ frames := 2, cells := 0, slots := 0, locals := 45 }) (va_Pc [.ref o0, .int a1, .int a2, .int a3] (hw (dC, dI) vwCl [(o0, .inr (8, [.int x_th, .ref mwo, .ref mim, .ref mhi, .ref mlu, .ref mtp, .int x_td, .ref mfv, .int x_sz, .int x_at, .int x_fr, .int x_to, .int x_va, .int x_fk, .int x_fp, .ref mfr, .ref mwt, .int x_wt, .int x_op, .int x_jo, .ref mfg, .ref mpl, .long x_dr, .ref mtm, .ref mfa, .ref mqu, .ref mmo, .ref mwy, .ref mwn, .ref mma, .ref mwi, .ref mnu, .ref mmv])), (mma, .inl (c_ma, 4, .inl w_ma)), (mwi, .inl (c_wi, 4, .inl w_wi)), (mnu, .inl (c_nu, 240, .inr (.inl w_nu)))] [(c_ma, .int), (c_wi, .int), (c_nu, .long)] sz)) (va_Qi (fun (r : Int32) (_ : Unit) => ((-3 : Int) ≤ r.toInt ∧ r.toInt ≤ 0) ∧ (r = rowA a1 a2 a3)) (fun (_ : Unit) t => ∃ (o0_ : Nat → Int32) (o1_ : Nat → Int32) (o2_ : Nat → Int64), (rg o0_ 4 (-1) 60) ∧ (rg o1_ 4 0 3) ∧ va_P (dC, dI) vwCl [(o0, .inr (8, [.int x_th, .ref mwo, .ref mim, .ref mhi, .ref mlu, .ref mtp, .int x_td, .ref mfv, .int x_sz, .int x_at, .int x_fr, .int x_to, .int x_va, .int x_fk, .int x_fp, .ref mfr, .ref mwt, .int x_wt, .int x_op, .int x_jo, .ref mfg, .ref mpl, .long x_dr, .ref mtm, .ref mfa, .ref mqu, .ref mmo, .ref mwy, .ref mwn, .ref mma, .ref mwi, .ref mnu, .ref mmv])), (mma, .inl (c_ma, 4, .inl o0_)), (mwi, .inl (c_wi, 4, .inl o1_)), (mnu, .inl (c_nu, 240, .inr (.inl o2_)))] t.heap ∧ va_K (dC, dI) vwCl [(c_ma, .int), (c_wi, .int), (c_nu, .long)] t ∧ va_D (va_A [(o0, .inr (8, [.int x_th, .ref mwo, .ref mim, .ref mhi, .ref mlu, .ref mtp, .int x_td, .ref mfv, .int x_sz, .int x_at, .int x_fr, .int x_to, .int x_va, .int x_fk, .int x_fp, .ref mfr, .ref mwt, .int x_wt, .int x_op, .int x_jo, .ref mfg, .ref mpl, .long x_dr, .ref mtm, .ref mfa, .ref mqu, .ref mmo, .ref mwy, .ref mwn, .ref mma, .ref mwi, .ref mnu, .ref mmv])), (mma, .inl (c_ma, 4, .inl w_ma)), (mwi, .inl (c_wi, 4, .inl w_wi)), (mnu, .inl (c_nu, 240, .inr (.inl w_nu)))] sz) [(o0, .inr (8, [.int x_th, .ref mwo, .ref mim, .ref mhi, .ref mlu, .ref mtp, .int x_td, .ref mfv, .int x_sz, .int x_at, .int x_fr, .int x_to, .int x_va, .int x_fk, .int x_fp, .ref mfr, .ref mwt, .int x_wt, .int x_op, .int x_jo, .ref mfg, .ref mpl, .long x_dr, .ref mtm, .ref mfa, .ref mqu, .ref mmo, .ref mwy, .ref mwn, .ref mma, .ref mwi, .ref mnu, .ref mmv])), (mma, .inl (c_ma, 4, .inl o0_)), (mwi, .inl (c_wi, 4, .inl o1_)), (mnu, .inl (c_nu, 240, .inr (.inl o2_)))]) (va_A [(o0, .inr (8, [.int x_th, .ref mwo, .ref mim, .ref mhi, .ref mlu, .ref mtp, .int x_td, .ref mfv, .int x_sz, .int x_at, .int x_fr, .int x_to, .int x_va, .int x_fk, .int x_fp, .ref mfr, .ref mwt, .int x_wt, .int x_op, .int x_jo, .ref mfg, .ref mpl, .long x_dr, .ref mtm, .ref mfa, .ref mqu, .ref mmo, .ref mwy, .ref mwn, .ref mma, .ref mwi, .ref mnu, .ref mmv])), (mma, .inl (c_ma, 4, .inl w_ma)), (mwi, .inl (c_wi, 4, .inl w_wi)), (mnu, .inl (c_nu, 240, .inr (.inl w_nu)))] sz)) 0 0 (va_A [(o0, .inr (8, [.int x_th, .ref mwo, .ref mim, .ref mhi, .ref mlu, .ref mtp, .int x_td, .ref mfv, .int x_sz, .int x_at, .int x_fr, .int x_to, .int x_va, .int x_fk, .int x_fp, .ref mfr, .ref mwt, .int x_wt, .int x_op, .int x_jo, .ref mfg, .ref mpl, .long x_dr, .ref mtm, .ref mfa, .ref mqu, .ref mmo, .ref mwy, .ref mwn, .ref mma, .ref mwi, .ref mnu, .ref mmv])), (mma, .inl (c_ma, 4, .inl w_ma)), (mwi, .inl (c_wi, 4, .inl w_wi)), (mnu, .inl (c_nu, 240, .inr (.inl w_nu)))] sz) := by
  refine Met.ofW (cc := cX10_row) (maxL := 5) (ret := (some .int)) (by decide) rfl ?_
  intro p e s m args below meth c s₁ B hml hv
  obtain ⟨rfl, hsz, hP, hK, hD0, hN⟩ := hv
  have hx := B.exec
  have hb := B.bytes
  have hr := B.returns
  have hts := atoms_spec (ws := uX10_rowF) B.pre
  have hown : s.vm.findClass RX10 = some m.cls := findClass_of_methodNamed B.named
  have hlocks := B.notSynchronized
  subst hsz
  have hD := hD0.self (sz := s.heap.size)
  generalize hAe : va_A [(o0, .inr (8, [.int x_th, .ref mwo, .ref mim, .ref mhi, .ref mlu, .ref mtp, .int x_td, .ref mfv, .int x_sz, .int x_at, .int x_fr, .int x_to, .int x_va, .int x_fk, .int x_fp, .ref mfr, .ref mwt, .int x_wt, .int x_op, .int x_jo, .ref mfg, .ref mpl, .long x_dr, .ref mtm, .ref mfa, .ref mqu, .ref mmo, .ref mwy, .ref mwn, .ref mma, .ref mwi, .ref mnu, .ref mmv])), (mma, .inl (c_ma, 4, .inl w_ma)), (mwi, .inl (c_wi, 4, .inl w_wi)), (mnu, .inl (c_nu, 240, .inr (.inl w_nu)))] s.heap.size = A at hD ⊢
  have hA : ∀ q : Nat, s.heap.size ≤ q → A q := fun q h => by rw [← hAe]; exact Or.inr h
  have hS : va_S A s.heap s.heap [] := va_S.rf
  have hP : va_P (dC, dI) vwCl [(o0, .inr (8, [.int x_th, .ref mwo, .ref mim, .ref mhi, .ref mlu, .ref mtp, .int x_td, .ref mfv, .int x_sz, .int x_at, .int x_fr, .int x_to, .int x_va, .int x_fk, .int x_fp, .ref mfr, .ref mwt, .int x_wt, .int x_op, .int x_jo, .ref mfg, .ref mpl, .long x_dr, .ref mtm, .ref mfa, .ref mqu, .ref mmo, .ref mwy, .ref mwn, .ref mma, .ref mwi, .ref mnu, .ref mmv])), (mma, .inl (c_ma, 4, .inl w_ma)), (mwi, .inl (c_wi, 4, .inl w_wi)), (mnu, .inl (c_nu, 240, .inr (.inl w_nu)))] s.heap := hP
  have hl := lv_entry ([.ref o0, .int a1, .int a2, .int a3]) (n := 5) (Nat.le_of_ble_eq_true rfl)
  rw [lg_entry_eq]
  generalize (lg_sl ([.ref o0, .int a1, .int a2, .int a3]) ++ List.replicate (5 - (lg_sl ([.ref o0, .int a1, .int a2, .int a3])).length) Slot.unset).toArray = ls at hl ⊢
  have hl : lv_has ls 5 [(0, .ref o0), (1, .int a1), (2, .int a2), (3, .int a3)] := hl
  refine lv_iload_n hx hb dX10_row_0 rfl (lv_at hl 1 rfl) ?_
  refine vp_callSi (W.runS (As := [.int a1]) (rest := []) ⟨hx, hb, hml, hown, hts⟩ (kX10_isSlot2 l dC dI a1 ) (va_cwS 1 hts gX10_rowF__X10_isSlot2_S369 rfl rfl rfl (by decide +kernel) ⟨lel 2 2 rfl, lel 45 45 rfl⟩) ⟨pn_fb, pn_use⟩ rfl rfl hl.1 rfl (lv_room (Nat.le_of_ble_eq_true rfl)) dX10_row_1 ⟨lel 0 0 rfl, lel 0 0 rfl⟩) (fun r_53 h_r_53 => ?_)
  obtain ⟨b_r_53, nz_r_53, zz_r_53⟩ := h_r_53
  have b_r_53 : (0 : Int) ≤ r_53.toInt ∧ r_53.toInt ≤ 1 := b_r_53
  refine lv_if_eq (tgt := 25) hx hb dX10_row_4 (by decide) (fun c_54 => ?_) (fun c_54 => ?_)
  ·
    have n_c_54 : (r_53.toInt : Int) = 0 := c_eq rfl (by decide) c_54
    have b_r_53 : (0 : Int) ≤ r_53.toInt ∧ r_53.toInt ≤ 0 := r_eq1 b_r_53 (by decide : (0 : Int) ≤ (0 : Int32).toInt ∧ (0 : Int32).toInt ≤ 0) n_c_54 (by decide)
    have g_55 := zz_r_53 c_54
    refine lv_bipush (v := (-2)) hx hb dX10_row_25 (by decide) ?_
    have hP9 := hP.sub (ws' := [(o0, .inr (8, [.int x_th, .ref mwo, .ref mim, .ref mhi, .ref mlu, .ref mtp, .int x_td, .ref mfv, .int x_sz, .int x_at, .int x_fr, .int x_to, .int x_va, .int x_fk, .int x_fp, .ref mfr, .ref mwt, .int x_wt, .int x_op, .int x_jo, .ref mfg, .ref mpl, .long x_dr, .ref mtm, .ref mfa, .ref mqu, .ref mmo, .ref mwy, .ref mwn, .ref mma, .ref mwi, .ref mnu, .ref mmv])), (mma, .inl (c_ma, 4, .inl w_ma)), (mwi, .inl (c_wi, 4, .inl w_wi)), (mnu, .inl (c_nu, 240, .inr (.inl w_nu)))]) [0, 1, 2, 3] rfl
    have hD9 := hD.sub (ws' := [(o0, .inr (8, [.int x_th, .ref mwo, .ref mim, .ref mhi, .ref mlu, .ref mtp, .int x_td, .ref mfv, .int x_sz, .int x_at, .int x_fr, .int x_to, .int x_va, .int x_fk, .int x_fp, .ref mfr, .ref mwt, .int x_wt, .int x_op, .int x_jo, .ref mfg, .ref mpl, .long x_dr, .ref mtm, .ref mfa, .ref mqu, .ref mmo, .ref mwy, .ref mwn, .ref mma, .ref mwi, .ref mnu, .ref mmv])), (mma, .inl (c_ma, 4, .inl w_ma)), (mwi, .inl (c_wi, 4, .inl w_wi)), (mnu, .inl (c_nu, 240, .inr (.inl w_nu)))]) [0, 1, 2, 3] (by decide) rfl
    have hK9 := hK.sub (tys' := [(c_ma, .int), (c_wi, .int), (c_nu, .long)]) [0, 1, 2] rfl
    exact W.iret (v := (-2)) hx hb hr (fun t ht hW => ⟨⟨(-2), (), rfl, ⟨(rg_w (by decide : (-2 : Int) ≤ ((-2) : Int32).toInt ∧ ((-2) : Int32).toInt ≤ -2) (by decide) (by decide)), (ro_2 (by omega))⟩, w_ma, w_wi, w_nu, ha_mma, ha_mwi, by rw [ht]; exact hP9, va_K.moved hW.alike hK9, hD9⟩, hS.F ht⟩) hS.2.2 dX10_row_27
  ·
    have n_c_54 : (r_53.toInt : Int) ≠ 0 := c_ne rfl (by decide) c_54
    have b_r_53 : (1 : Int) ≤ r_53.toInt ∧ r_53.toInt ≤ 1 := r_ne1 b_r_53 (by decide : (0 : Int) ≤ (0 : Int32).toInt ∧ (0 : Int32).toInt ≤ 0) n_c_54 (by decide)
    obtain ⟨b_a1, g_56⟩ := nz_r_53 c_54
    refine lv_iload_n hx hb dX10_row_7 rfl (lv_at hl 2 rfl) ?_
    obtain ⟨z_57, e_z_57⟩ : ∃ y : Int64, y = a2.toInt64 := ⟨_, rfl⟩
    refine lv_i2l (v := z_57) hx hb dX10_row_8 e_z_57.symm ?_
    obtain ⟨q_z_57, b_z_57⟩ := ti_i2l e_z_57 (ti_rng a2)
    refine lv_lconst (v := 0) hx hb dX10_row_9 (by decide) ?_
    refine lv_ldc2 (v := 3) hx hb hown (hts (.constantLong RX10 375 (3)) (List.mem_of_getElem? (i := 5) rfl)) dX10_row_10 ?_
    refine vp_callSi (W.runS (As := [.long z_57, .long 0, .long 3]) (rest := []) ⟨hx, hb, hml, hown, hts⟩ (kX10_in2 l dC dI z_57 0 3 ) (va_cwS 3 hts gX10_rowF__X10_in2_S82 rfl rfl rfl (by decide +kernel) ⟨lel 1 2 rfl, lel 25 45 rfl⟩) ⟨pn_fb, pn_use⟩ rfl rfl hl.1 rfl (lv_room (Nat.le_of_ble_eq_true rfl)) dX10_row_13 ⟨lel 0 0 rfl, lel 0 0 rfl⟩) (fun r_58 h_r_58 => ?_)
    obtain ⟨b_r_58, nz_r_58, zz_r_58⟩ := h_r_58
    have b_r_58 : (0 : Int) ≤ r_58.toInt ∧ r_58.toInt ≤ 1 := b_r_58
    refine lv_if_eq (tgt := 25) hx hb dX10_row_16 (by decide) (fun c_59 => ?_) (fun c_59 => ?_)
    ·
      have n_c_59 : (r_58.toInt : Int) = 0 := c_eq rfl (by decide) c_59
      have b_r_58 : (0 : Int) ≤ r_58.toInt ∧ r_58.toInt ≤ 0 := r_eq1 b_r_58 (by decide : (0 : Int) ≤ (0 : Int32).toInt ∧ (0 : Int32).toInt ≤ 0) n_c_59 (by decide)
      have g_60 := zz_r_58 c_59
      have lt0_g_60 := (by decide : (0 : Int64).toInt = 0)
      have lt1_g_60 := (by decide : (3 : Int64).toInt = 3)
      refine lv_bipush (v := (-2)) hx hb dX10_row_25 (by decide) ?_
      have hP9 := hP.sub (ws' := [(o0, .inr (8, [.int x_th, .ref mwo, .ref mim, .ref mhi, .ref mlu, .ref mtp, .int x_td, .ref mfv, .int x_sz, .int x_at, .int x_fr, .int x_to, .int x_va, .int x_fk, .int x_fp, .ref mfr, .ref mwt, .int x_wt, .int x_op, .int x_jo, .ref mfg, .ref mpl, .long x_dr, .ref mtm, .ref mfa, .ref mqu, .ref mmo, .ref mwy, .ref mwn, .ref mma, .ref mwi, .ref mnu, .ref mmv])), (mma, .inl (c_ma, 4, .inl w_ma)), (mwi, .inl (c_wi, 4, .inl w_wi)), (mnu, .inl (c_nu, 240, .inr (.inl w_nu)))]) [0, 1, 2, 3] rfl
      have hD9 := hD.sub (ws' := [(o0, .inr (8, [.int x_th, .ref mwo, .ref mim, .ref mhi, .ref mlu, .ref mtp, .int x_td, .ref mfv, .int x_sz, .int x_at, .int x_fr, .int x_to, .int x_va, .int x_fk, .int x_fp, .ref mfr, .ref mwt, .int x_wt, .int x_op, .int x_jo, .ref mfg, .ref mpl, .long x_dr, .ref mtm, .ref mfa, .ref mqu, .ref mmo, .ref mwy, .ref mwn, .ref mma, .ref mwi, .ref mnu, .ref mmv])), (mma, .inl (c_ma, 4, .inl w_ma)), (mwi, .inl (c_wi, 4, .inl w_wi)), (mnu, .inl (c_nu, 240, .inr (.inl w_nu)))]) [0, 1, 2, 3] (by decide) rfl
      have hK9 := hK.sub (tys' := [(c_ma, .int), (c_wi, .int), (c_nu, .long)]) [0, 1, 2] rfl
      exact W.iret (v := (-2)) hx hb hr (fun t ht hW => ⟨⟨(-2), (), rfl, ⟨(rg_w (by decide : (-2 : Int) ≤ ((-2) : Int32).toInt ∧ ((-2) : Int32).toInt ≤ -2) (by decide) (by decide)), (ro_2 (by omega))⟩, w_ma, w_wi, w_nu, ha_mma, ha_mwi, by rw [ht]; exact hP9, va_K.moved hW.alike hK9, hD9⟩, hS.F ht⟩) hS.2.2 dX10_row_27
    ·
      have n_c_59 : (r_58.toInt : Int) ≠ 0 := c_ne rfl (by decide) c_59
      have b_r_58 : (1 : Int) ≤ r_58.toInt ∧ r_58.toInt ≤ 1 := r_ne1 b_r_58 (by decide : (0 : Int) ≤ (0 : Int32).toInt ∧ (0 : Int32).toInt ≤ 0) n_c_59 (by decide)
      have g_61 := nz_r_58 c_59
      have lt0_g_61 := (by decide : (0 : Int64).toInt = 0)
      have lt1_g_61 := (by decide : (3 : Int64).toInt = 3)
      have b_z_57 : (0 : Int) ≤ z_57.toInt ∧ z_57.toInt ≤ 3 := by
        have q0 := b_z_57
        have q1 := (by decide : (0 : Int) ≤ (0 : Int64).toInt ∧ (0 : Int64).toInt ≤ 0)
        have q2 := (by decide : (3 : Int) ≤ (3 : Int64).toInt ∧ (3 : Int64).toInt ≤ 3)
        omega
      have b_a2 : (0 : Int) ≤ a2.toInt ∧ a2.toInt ≤ 3 := by
        have q0 := b_z_57; have q1 := q_z_57; have q2 := (ti_rng a2); omega
      refine lv_iload_n hx hb dX10_row_19 rfl (lv_at hl 3 rfl) ?_
      refine lv_bipush (v := 60) hx hb dX10_row_20 (by decide) ?_
      refine lv_icmp_le (tgt := 28) hx hb dX10_row_22 (by decide) (fun c_62 => ?_) (fun c_62 => ?_)
      ·
        have n_c_62 : (a3.toInt : Int) ≤ 60 := c_le rfl (by decide) c_62
        have b_a3 : (-2147483648 : Int) ≤ a3.toInt ∧ a3.toInt ≤ 60 := r_le1 (ti_rng a3) (by decide : (60 : Int) ≤ (60 : Int32).toInt ∧ (60 : Int32).toInt ≤ 60) n_c_62 (by decide)
        refine lv_iload_n hx hb dX10_row_28 rfl (lv_at hl 3 rfl) ?_
        refine lv_if_ge (tgt := 35) hx hb dX10_row_29 (by decide) (fun c_63 => ?_) (fun c_63 => ?_)
        ·
          have n_c_63 : (0 : Int) ≤ a3.toInt := c_ge rfl (by decide) c_63
          have b_a3 : (0 : Int) ≤ a3.toInt ∧ a3.toInt ≤ 60 := r_le2 (by decide : (0 : Int) ≤ (0 : Int32).toInt ∧ (0 : Int32).toInt ≤ 0) b_a3 n_c_63 (by decide)
          refine lv_aload_n hx hb dX10_row_35 rfl (lv_at hl 0 rfl) ?_
          refine va_get (D := (dC, dI)) (ci := 8) (v := .ref mma) (C := RX10) (T := TX10) (N := 33) hx hb hts iX10_rowF_X10 hown hK hP 0 rfl rfl 29 (by decide) (hts (.fieldLink RX10 65 "LuckyTicketModel" "many" "[I") (List.mem_of_getElem? (i := 9) rfl)) (fun _ h9 => h9) rfl dX10_row_36 ?_
          refine lv_iload_n hx hb dX10_row_39 rfl (lv_at hl 1 rfl) ?_
          refine lv_iload_n hx hb dX10_row_40 rfl (lv_at hl 3 rfl) ?_
          refine va_iast hx hb hK hP hD hS 1 0 rfl rfl (vp_in_b b_a1 (by decide) (by decide)) dX10_row_41 (fun H locs hP hD hS => ?_)
          have hP : va_P (dC, dI) vwCl [(o0, .inr (8, [.int x_th, .ref mwo, .ref mim, .ref mhi, .ref mlu, .ref mtp, .int x_td, .ref mfv, .int x_sz, .int x_at, .int x_fr, .int x_to, .int x_va, .int x_fk, .int x_fp, .ref mfr, .ref mwt, .int x_wt, .int x_op, .int x_jo, .ref mfg, .ref mpl, .long x_dr, .ref mtm, .ref mfa, .ref mqu, .ref mmo, .ref mwy, .ref mwn, .ref mma, .ref mwi, .ref mnu, .ref mmv])), (mma, .inl (c_ma, 4, .inl (upd w_ma (a1 : Int32).toNatClampNeg a3))), (mwi, .inl (c_wi, 4, .inl w_wi)), (mnu, .inl (c_nu, 240, .inr (.inl w_nu)))] H := hP
          have hD : va_D A [(o0, .inr (8, [.int x_th, .ref mwo, .ref mim, .ref mhi, .ref mlu, .ref mtp, .int x_td, .ref mfv, .int x_sz, .int x_at, .int x_fr, .int x_to, .int x_va, .int x_fk, .int x_fp, .ref mfr, .ref mwt, .int x_wt, .int x_op, .int x_jo, .ref mfg, .ref mpl, .long x_dr, .ref mtm, .ref mfa, .ref mqu, .ref mmo, .ref mwy, .ref mwn, .ref mma, .ref mwi, .ref mnu, .ref mmv])), (mma, .inl (c_ma, 4, .inl (upd w_ma (a1 : Int32).toNatClampNeg a3))), (mwi, .inl (c_wi, 4, .inl w_wi)), (mnu, .inl (c_nu, 240, .inr (.inl w_nu)))] := hD
          have ha_65 : rg (upd w_ma (a1 : Int32).toNatClampNeg a3) 4 (-1) 60 := rg_upd ha_mma (rg_w b_a3 (by decide) (by decide))
          generalize (upd w_ma (a1 : Int32).toNatClampNeg a3) = f_64 at hP hD ha_65
          have hP : va_P (dC, dI) vwCl [(o0, .inr (8, [.int x_th, .ref mwo, .ref mim, .ref mhi, .ref mlu, .ref mtp, .int x_td, .ref mfv, .int x_sz, .int x_at, .int x_fr, .int x_to, .int x_va, .int x_fk, .int x_fp, .ref mfr, .ref mwt, .int x_wt, .int x_op, .int x_jo, .ref mfg, .ref mpl, .long x_dr, .ref mtm, .ref mfa, .ref mqu, .ref mmo, .ref mwy, .ref mwn, .ref mma, .ref mwi, .ref mnu, .ref mmv])), (mma, .inl (c_ma, 4, .inl f_64)), (mwi, .inl (c_wi, 4, .inl w_wi)), (mnu, .inl (c_nu, 240, .inr (.inl w_nu)))] H := hP
          have hD : va_D A [(o0, .inr (8, [.int x_th, .ref mwo, .ref mim, .ref mhi, .ref mlu, .ref mtp, .int x_td, .ref mfv, .int x_sz, .int x_at, .int x_fr, .int x_to, .int x_va, .int x_fk, .int x_fp, .ref mfr, .ref mwt, .int x_wt, .int x_op, .int x_jo, .ref mfg, .ref mpl, .long x_dr, .ref mtm, .ref mfa, .ref mqu, .ref mmo, .ref mwy, .ref mwn, .ref mma, .ref mwi, .ref mnu, .ref mmv])), (mma, .inl (c_ma, 4, .inl f_64)), (mwi, .inl (c_wi, 4, .inl w_wi)), (mnu, .inl (c_nu, 240, .inr (.inl w_nu)))] := hD
          refine lv_aload_n hx hb dX10_row_42 rfl (lv_at hl 0 rfl) ?_
          refine va_get (D := (dC, dI)) (ci := 8) (v := .ref mwi) (C := RX10) (T := TX10) (N := 33) hx hb hts iX10_rowF_X10 hown hK hP 0 rfl rfl 30 (by decide) (hts (.fieldLink RX10 68 "LuckyTicketModel" "width" "[I") (List.mem_of_getElem? (i := 10) rfl)) (fun _ h9 => h9) rfl dX10_row_43 ?_
          refine lv_iload_n hx hb dX10_row_46 rfl (lv_at hl 1 rfl) ?_
          refine lv_iload_n hx hb dX10_row_47 rfl (lv_at hl 2 rfl) ?_
          refine va_iast hx hb hK hP hD hS 2 1 rfl rfl (vp_in_b b_a1 (by decide) (by decide)) dX10_row_48 (fun H locs hP hD hS => ?_)
          have hP : va_P (dC, dI) vwCl [(o0, .inr (8, [.int x_th, .ref mwo, .ref mim, .ref mhi, .ref mlu, .ref mtp, .int x_td, .ref mfv, .int x_sz, .int x_at, .int x_fr, .int x_to, .int x_va, .int x_fk, .int x_fp, .ref mfr, .ref mwt, .int x_wt, .int x_op, .int x_jo, .ref mfg, .ref mpl, .long x_dr, .ref mtm, .ref mfa, .ref mqu, .ref mmo, .ref mwy, .ref mwn, .ref mma, .ref mwi, .ref mnu, .ref mmv])), (mma, .inl (c_ma, 4, .inl f_64)), (mwi, .inl (c_wi, 4, .inl (upd w_wi (a1 : Int32).toNatClampNeg a2))), (mnu, .inl (c_nu, 240, .inr (.inl w_nu)))] H := hP
          have hD : va_D A [(o0, .inr (8, [.int x_th, .ref mwo, .ref mim, .ref mhi, .ref mlu, .ref mtp, .int x_td, .ref mfv, .int x_sz, .int x_at, .int x_fr, .int x_to, .int x_va, .int x_fk, .int x_fp, .ref mfr, .ref mwt, .int x_wt, .int x_op, .int x_jo, .ref mfg, .ref mpl, .long x_dr, .ref mtm, .ref mfa, .ref mqu, .ref mmo, .ref mwy, .ref mwn, .ref mma, .ref mwi, .ref mnu, .ref mmv])), (mma, .inl (c_ma, 4, .inl f_64)), (mwi, .inl (c_wi, 4, .inl (upd w_wi (a1 : Int32).toNatClampNeg a2))), (mnu, .inl (c_nu, 240, .inr (.inl w_nu)))] := hD
          have ha_67 : rg (upd w_wi (a1 : Int32).toNatClampNeg a2) 4 0 3 := rg_upd ha_mwi b_a2
          generalize (upd w_wi (a1 : Int32).toNatClampNeg a2) = f_66 at hP hD ha_67
          have hP : va_P (dC, dI) vwCl [(o0, .inr (8, [.int x_th, .ref mwo, .ref mim, .ref mhi, .ref mlu, .ref mtp, .int x_td, .ref mfv, .int x_sz, .int x_at, .int x_fr, .int x_to, .int x_va, .int x_fk, .int x_fp, .ref mfr, .ref mwt, .int x_wt, .int x_op, .int x_jo, .ref mfg, .ref mpl, .long x_dr, .ref mtm, .ref mfa, .ref mqu, .ref mmo, .ref mwy, .ref mwn, .ref mma, .ref mwi, .ref mnu, .ref mmv])), (mma, .inl (c_ma, 4, .inl f_64)), (mwi, .inl (c_wi, 4, .inl f_66)), (mnu, .inl (c_nu, 240, .inr (.inl w_nu)))] H := hP
          have hD : va_D A [(o0, .inr (8, [.int x_th, .ref mwo, .ref mim, .ref mhi, .ref mlu, .ref mtp, .int x_td, .ref mfv, .int x_sz, .int x_at, .int x_fr, .int x_to, .int x_va, .int x_fk, .int x_fp, .ref mfr, .ref mwt, .int x_wt, .int x_op, .int x_jo, .ref mfg, .ref mpl, .long x_dr, .ref mtm, .ref mfa, .ref mqu, .ref mmo, .ref mwy, .ref mwn, .ref mma, .ref mwi, .ref mnu, .ref mmv])), (mma, .inl (c_ma, 4, .inl f_64)), (mwi, .inl (c_wi, 4, .inl f_66)), (mnu, .inl (c_nu, 240, .inr (.inl w_nu)))] := hD
          refine lv_iconst (v := 0) hx hb dX10_row_49 (by decide) ?_
          refine lv_istore (lv' := [(4, .int 0), (0, .ref o0), (1, .int a1), (2, .int a2), (3, .int a3)]) hx hb dX10_row_50 hl (by decide) rfl (fun ls hl => ?_)
          refine loopW (σ := Int32 × (Nat → Int64)) (fun v => (60 - v.1.toInt).toNat) (fun v H locs ls => ((0 : Int) ≤ v.1.toInt ∧ v.1.toInt ≤ 60) ∧ va_P (dC, dI) vwCl [(o0, .inr (8, [.int x_th, .ref mwo, .ref mim, .ref mhi, .ref mlu, .ref mtp, .int x_td, .ref mfv, .int x_sz, .int x_at, .int x_fr, .int x_to, .int x_va, .int x_fk, .int x_fp, .ref mfr, .ref mwt, .int x_wt, .int x_op, .int x_jo, .ref mfg, .ref mpl, .long x_dr, .ref mtm, .ref mfa, .ref mqu, .ref mmo, .ref mwy, .ref mwn, .ref mma, .ref mwi, .ref mnu, .ref mmv])), (mma, .inl (c_ma, 4, .inl f_64)), (mwi, .inl (c_wi, 4, .inl f_66)), (mnu, .inl (c_nu, 240, .inr (.inl v.2)))] H ∧ va_D A [(o0, .inr (8, [.int x_th, .ref mwo, .ref mim, .ref mhi, .ref mlu, .ref mtp, .int x_td, .ref mfv, .int x_sz, .int x_at, .int x_fr, .int x_to, .int x_va, .int x_fk, .int x_fp, .ref mfr, .ref mwt, .int x_wt, .int x_op, .int x_jo, .ref mfg, .ref mpl, .long x_dr, .ref mtm, .ref mfa, .ref mqu, .ref mmo, .ref mwy, .ref mwn, .ref mma, .ref mwi, .ref mnu, .ref mmv])), (mma, .inl (c_ma, 4, .inl f_64)), (mwi, .inl (c_wi, 4, .inl f_66)), (mnu, .inl (c_nu, 240, .inr (.inl v.2)))] ∧ va_S A s.heap H locs ∧ lv_has ls 5 [(4, .int v.1), (0, .ref o0), (1, .int a1), (2, .int a2), (3, .int a3)]) (fun v H locs ls hI ih_52_99 => ?_) ((0 : Int32), w_nu) ⟨(show (0 : Int) ≤ (0 : Int32).toInt ∧ (0 : Int32).toInt ≤ 60 from (rg_w (by decide : (0 : Int) ≤ (0 : Int32).toInt ∧ (0 : Int32).toInt ≤ 0) (by decide) (by decide))), hP, hD, hS, lv_sub hl [0, 1, 2, 3, 4] rfl⟩
          obtain ⟨y_73, f_74⟩ := v
          obtain ⟨b_y_73, hP, hD, hS, hl⟩ := hI
          have b_y_73 : (0 : Int) ≤ y_73.toInt ∧ y_73.toInt ≤ 60 := b_y_73
          have hP : va_P (dC, dI) vwCl [(o0, .inr (8, [.int x_th, .ref mwo, .ref mim, .ref mhi, .ref mlu, .ref mtp, .int x_td, .ref mfv, .int x_sz, .int x_at, .int x_fr, .int x_to, .int x_va, .int x_fk, .int x_fp, .ref mfr, .ref mwt, .int x_wt, .int x_op, .int x_jo, .ref mfg, .ref mpl, .long x_dr, .ref mtm, .ref mfa, .ref mqu, .ref mmo, .ref mwy, .ref mwn, .ref mma, .ref mwi, .ref mnu, .ref mmv])), (mma, .inl (c_ma, 4, .inl f_64)), (mwi, .inl (c_wi, 4, .inl f_66)), (mnu, .inl (c_nu, 240, .inr (.inl f_74)))] H := hP
          have hD : va_D A [(o0, .inr (8, [.int x_th, .ref mwo, .ref mim, .ref mhi, .ref mlu, .ref mtp, .int x_td, .ref mfv, .int x_sz, .int x_at, .int x_fr, .int x_to, .int x_va, .int x_fk, .int x_fp, .ref mfr, .ref mwt, .int x_wt, .int x_op, .int x_jo, .ref mfg, .ref mpl, .long x_dr, .ref mtm, .ref mfa, .ref mqu, .ref mmo, .ref mwy, .ref mwn, .ref mma, .ref mwi, .ref mnu, .ref mmv])), (mma, .inl (c_ma, 4, .inl f_64)), (mwi, .inl (c_wi, 4, .inl f_66)), (mnu, .inl (c_nu, 240, .inr (.inl f_74)))] := hD
          have hl : lv_has ls 5 [(4, .int y_73), (0, .ref o0), (1, .int a1), (2, .int a2), (3, .int a3)] := hl
          refine lv_iload hx hb dX10_row_52 (lv_at hl 0 rfl) ?_
          refine lv_bipush (v := 60) hx hb dX10_row_54 (by decide) ?_
          refine lv_icmp_ge (tgt := 78) hx hb dX10_row_56 (by decide) (fun c_100 => ?_) (fun c_100 => ?_)
          ·
            have n_c_100 : (60 : Int) ≤ y_73.toInt := c_ge rfl (by decide) c_100
            have b_y_73 : (60 : Int) ≤ y_73.toInt ∧ y_73.toInt ≤ 60 := r_le2 (by decide : (60 : Int) ≤ (60 : Int32).toInt ∧ (60 : Int32).toInt ≤ 60) b_y_73 n_c_100 (by decide)
            refine lv_iconst (v := 0) hx hb dX10_row_78 (by decide) ?_
            have hP9 := hP.sub (ws' := [(o0, .inr (8, [.int x_th, .ref mwo, .ref mim, .ref mhi, .ref mlu, .ref mtp, .int x_td, .ref mfv, .int x_sz, .int x_at, .int x_fr, .int x_to, .int x_va, .int x_fk, .int x_fp, .ref mfr, .ref mwt, .int x_wt, .int x_op, .int x_jo, .ref mfg, .ref mpl, .long x_dr, .ref mtm, .ref mfa, .ref mqu, .ref mmo, .ref mwy, .ref mwn, .ref mma, .ref mwi, .ref mnu, .ref mmv])), (mma, .inl (c_ma, 4, .inl f_64)), (mwi, .inl (c_wi, 4, .inl f_66)), (mnu, .inl (c_nu, 240, .inr (.inl f_74)))]) [0, 1, 2, 3] rfl
            have hD9 := hD.sub (ws' := [(o0, .inr (8, [.int x_th, .ref mwo, .ref mim, .ref mhi, .ref mlu, .ref mtp, .int x_td, .ref mfv, .int x_sz, .int x_at, .int x_fr, .int x_to, .int x_va, .int x_fk, .int x_fp, .ref mfr, .ref mwt, .int x_wt, .int x_op, .int x_jo, .ref mfg, .ref mpl, .long x_dr, .ref mtm, .ref mfa, .ref mqu, .ref mmo, .ref mwy, .ref mwn, .ref mma, .ref mwi, .ref mnu, .ref mmv])), (mma, .inl (c_ma, 4, .inl f_64)), (mwi, .inl (c_wi, 4, .inl f_66)), (mnu, .inl (c_nu, 240, .inr (.inl f_74)))]) [0, 1, 2, 3] (by decide) rfl
            have hK9 := hK.sub (tys' := [(c_ma, .int), (c_wi, .int), (c_nu, .long)]) [0, 1, 2] rfl
            exact W.iret (v := 0) hx hb hr (fun t ht hW => ⟨⟨0, (), rfl, ⟨(rg_w (by decide : (0 : Int) ≤ (0 : Int32).toInt ∧ (0 : Int32).toInt ≤ 0) (by decide) (by decide)), (ro_0 (by omega) (by omega))⟩, f_64, f_66, f_74, ha_65, ha_67, by rw [ht]; exact hP9, va_K.moved hW.alike hK9, hD9⟩, hS.F ht⟩) hS.2.2 dX10_row_79
          ·
            have n_c_100 : (y_73.toInt : Int) < 60 := c_nge rfl (by decide) c_100
            have b_y_73 : (0 : Int) ≤ y_73.toInt ∧ y_73.toInt ≤ 59 := r_lt1 b_y_73 (by decide : (60 : Int) ≤ (60 : Int32).toInt ∧ (60 : Int32).toInt ≤ 60) n_c_100 (by decide)
            refine lv_aload_n hx hb dX10_row_59 rfl (lv_at hl 1 rfl) ?_
            refine va_get (D := (dC, dI)) (ci := 8) (v := .ref mnu) (C := RX10) (T := TX10) (N := 33) hx hb hts iX10_rowF_X10 hown hK hP 0 rfl rfl 31 (by decide) (hts (.fieldLink RX10 71 "LuckyTicketModel" "numbers" "[J") (List.mem_of_getElem? (i := 11) rfl)) (fun _ h9 => h9) rfl dX10_row_60 ?_
            refine lv_bipush (v := 60) hx hb dX10_row_63 (by decide) ?_
            refine lv_iload_n hx hb dX10_row_65 rfl (lv_at hl 2 rfl) ?_
            refine lv_imul hx hb dX10_row_66 ?_
            refine lv_topi (fun z_101 e_z_101 => ?_)
            obtain ⟨q_z_101, b_z_101⟩ := ti_mul (lo := 0) (hi := 180) e_z_101 (by decide : (60 : Int32).toInt = 60) rfl (by decide : (60 : Int) ≤ (60 : Int32).toInt ∧ (60 : Int32).toInt ≤ 60) b_a1 (by decide)
            refine lv_iload hx hb dX10_row_67 (lv_at hl 0 rfl) ?_
            refine lv_iadd hx hb dX10_row_69 ?_
            refine lv_topi (fun z_102 e_z_102 => ?_)
            obtain ⟨q_z_102, b_z_102⟩ := ti_add (lo := 0) (hi := 239) e_z_102 rfl rfl b_z_101 b_y_73 (by decide)
            refine lv_lconst (v := 0) hx hb dX10_row_70 (by decide) ?_
            refine va_last hx hb hK hP hD hS 3 2 rfl rfl (vp_in_b b_z_102 (by decide) (by decide)) dX10_row_71 (fun H locs hP hD hS => ?_)
            have hP : va_P (dC, dI) vwCl [(o0, .inr (8, [.int x_th, .ref mwo, .ref mim, .ref mhi, .ref mlu, .ref mtp, .int x_td, .ref mfv, .int x_sz, .int x_at, .int x_fr, .int x_to, .int x_va, .int x_fk, .int x_fp, .ref mfr, .ref mwt, .int x_wt, .int x_op, .int x_jo, .ref mfg, .ref mpl, .long x_dr, .ref mtm, .ref mfa, .ref mqu, .ref mmo, .ref mwy, .ref mwn, .ref mma, .ref mwi, .ref mnu, .ref mmv])), (mma, .inl (c_ma, 4, .inl f_64)), (mwi, .inl (c_wi, 4, .inl f_66)), (mnu, .inl (c_nu, 240, .inr (.inl (vp_updL f_74 (z_102 : Int32).toNatClampNeg 0))))] H := hP
            have hD : va_D A [(o0, .inr (8, [.int x_th, .ref mwo, .ref mim, .ref mhi, .ref mlu, .ref mtp, .int x_td, .ref mfv, .int x_sz, .int x_at, .int x_fr, .int x_to, .int x_va, .int x_fk, .int x_fp, .ref mfr, .ref mwt, .int x_wt, .int x_op, .int x_jo, .ref mfg, .ref mpl, .long x_dr, .ref mtm, .ref mfa, .ref mqu, .ref mmo, .ref mwy, .ref mwn, .ref mma, .ref mwi, .ref mnu, .ref mmv])), (mma, .inl (c_ma, 4, .inl f_64)), (mwi, .inl (c_wi, 4, .inl f_66)), (mnu, .inl (c_nu, 240, .inr (.inl (vp_updL f_74 (z_102 : Int32).toNatClampNeg 0))))] := hD
            generalize (vp_updL f_74 (z_102 : Int32).toNatClampNeg 0) = f_103 at hP hD
            have hP : va_P (dC, dI) vwCl [(o0, .inr (8, [.int x_th, .ref mwo, .ref mim, .ref mhi, .ref mlu, .ref mtp, .int x_td, .ref mfv, .int x_sz, .int x_at, .int x_fr, .int x_to, .int x_va, .int x_fk, .int x_fp, .ref mfr, .ref mwt, .int x_wt, .int x_op, .int x_jo, .ref mfg, .ref mpl, .long x_dr, .ref mtm, .ref mfa, .ref mqu, .ref mmo, .ref mwy, .ref mwn, .ref mma, .ref mwi, .ref mnu, .ref mmv])), (mma, .inl (c_ma, 4, .inl f_64)), (mwi, .inl (c_wi, 4, .inl f_66)), (mnu, .inl (c_nu, 240, .inr (.inl f_103)))] H := hP
            have hD : va_D A [(o0, .inr (8, [.int x_th, .ref mwo, .ref mim, .ref mhi, .ref mlu, .ref mtp, .int x_td, .ref mfv, .int x_sz, .int x_at, .int x_fr, .int x_to, .int x_va, .int x_fk, .int x_fp, .ref mfr, .ref mwt, .int x_wt, .int x_op, .int x_jo, .ref mfg, .ref mpl, .long x_dr, .ref mtm, .ref mfa, .ref mqu, .ref mmo, .ref mwy, .ref mwn, .ref mma, .ref mwi, .ref mnu, .ref mmv])), (mma, .inl (c_ma, 4, .inl f_64)), (mwi, .inl (c_wi, 4, .inl f_66)), (mnu, .inl (c_nu, 240, .inr (.inl f_103)))] := hD
            obtain ⟨z_104, e_z_104⟩ : ∃ y : Int32, y = y_73 + 1 := ⟨_, rfl⟩
            refine lv_iinc (v := z_104) (lv' := [(4, .int z_104), (0, .ref o0), (1, .int a1), (2, .int a2), (3, .int a3)]) hx hb dX10_row_72 hl (k := 0) rfl (by rw [e_z_104]; rfl) (by decide) rfl (fun ls hl => ?_)
            obtain ⟨q_z_104, b_z_104⟩ := ti_add (lo := 1) (hi := 60) e_z_104 rfl (by decide : (1 : Int32).toInt = 1) b_y_73 (by decide : (1 : Int) ≤ (1 : Int32).toInt ∧ (1 : Int32).toInt ≤ 1) (by decide)
            refine lv_goto (tgt := 52) hx hb dX10_row_75 (by decide) ?_
            exact ih_52_99 (z_104, f_103) _ _ _ ⟨(show (0 : Int) ≤ z_104.toInt ∧ z_104.toInt ≤ 60 from (rg_w b_z_104 (by decide) (by decide))), hP, hD, hS, lv_sub hl [0, 1, 2, 3, 4] rfl⟩ (show (60 - z_104.toInt).toNat < (60 - y_73.toInt).toNat by omega)
        ·
          have n_c_63 : (a3.toInt : Int) < 0 := c_nge rfl (by decide) c_63
          have b_a3 : (-2147483648 : Int) ≤ a3.toInt ∧ a3.toInt ≤ -1 := r_lt1 b_a3 (by decide : (0 : Int) ≤ (0 : Int32).toInt ∧ (0 : Int32).toInt ≤ 0) n_c_63 (by decide)
          refine lv_bipush (v := (-3)) hx hb dX10_row_32 (by decide) ?_
          have hP9 := hP.sub (ws' := [(o0, .inr (8, [.int x_th, .ref mwo, .ref mim, .ref mhi, .ref mlu, .ref mtp, .int x_td, .ref mfv, .int x_sz, .int x_at, .int x_fr, .int x_to, .int x_va, .int x_fk, .int x_fp, .ref mfr, .ref mwt, .int x_wt, .int x_op, .int x_jo, .ref mfg, .ref mpl, .long x_dr, .ref mtm, .ref mfa, .ref mqu, .ref mmo, .ref mwy, .ref mwn, .ref mma, .ref mwi, .ref mnu, .ref mmv])), (mma, .inl (c_ma, 4, .inl w_ma)), (mwi, .inl (c_wi, 4, .inl w_wi)), (mnu, .inl (c_nu, 240, .inr (.inl w_nu)))]) [0, 1, 2, 3] rfl
          have hD9 := hD.sub (ws' := [(o0, .inr (8, [.int x_th, .ref mwo, .ref mim, .ref mhi, .ref mlu, .ref mtp, .int x_td, .ref mfv, .int x_sz, .int x_at, .int x_fr, .int x_to, .int x_va, .int x_fk, .int x_fp, .ref mfr, .ref mwt, .int x_wt, .int x_op, .int x_jo, .ref mfg, .ref mpl, .long x_dr, .ref mtm, .ref mfa, .ref mqu, .ref mmo, .ref mwy, .ref mwn, .ref mma, .ref mwi, .ref mnu, .ref mmv])), (mma, .inl (c_ma, 4, .inl w_ma)), (mwi, .inl (c_wi, 4, .inl w_wi)), (mnu, .inl (c_nu, 240, .inr (.inl w_nu)))]) [0, 1, 2, 3] (by decide) rfl
          have hK9 := hK.sub (tys' := [(c_ma, .int), (c_wi, .int), (c_nu, .long)]) [0, 1, 2] rfl
          exact W.iret (v := (-3)) hx hb hr (fun t ht hW => ⟨⟨(-3), (), rfl, ⟨(rg_w (by decide : (-3 : Int) ≤ ((-3) : Int32).toInt ∧ ((-3) : Int32).toInt ≤ -3) (by decide) (by decide)), (ro_3 (by omega) (by omega))⟩, w_ma, w_wi, w_nu, ha_mma, ha_mwi, by rw [ht]; exact hP9, va_K.moved hW.alike hK9, hD9⟩, hS.F ht⟩) hS.2.2 dX10_row_34
      ·
        have n_c_62 : (60 : Int) < a3.toInt := c_nle rfl (by decide) c_62
        have b_a3 : (61 : Int) ≤ a3.toInt ∧ a3.toInt ≤ 2147483647 := r_lt2 (by decide : (60 : Int) ≤ (60 : Int32).toInt ∧ (60 : Int32).toInt ≤ 60) (ti_rng a3) n_c_62 (by decide)
        refine lv_bipush (v := (-2)) hx hb dX10_row_25 (by decide) ?_
        have hP9 := hP.sub (ws' := [(o0, .inr (8, [.int x_th, .ref mwo, .ref mim, .ref mhi, .ref mlu, .ref mtp, .int x_td, .ref mfv, .int x_sz, .int x_at, .int x_fr, .int x_to, .int x_va, .int x_fk, .int x_fp, .ref mfr, .ref mwt, .int x_wt, .int x_op, .int x_jo, .ref mfg, .ref mpl, .long x_dr, .ref mtm, .ref mfa, .ref mqu, .ref mmo, .ref mwy, .ref mwn, .ref mma, .ref mwi, .ref mnu, .ref mmv])), (mma, .inl (c_ma, 4, .inl w_ma)), (mwi, .inl (c_wi, 4, .inl w_wi)), (mnu, .inl (c_nu, 240, .inr (.inl w_nu)))]) [0, 1, 2, 3] rfl
        have hD9 := hD.sub (ws' := [(o0, .inr (8, [.int x_th, .ref mwo, .ref mim, .ref mhi, .ref mlu, .ref mtp, .int x_td, .ref mfv, .int x_sz, .int x_at, .int x_fr, .int x_to, .int x_va, .int x_fk, .int x_fp, .ref mfr, .ref mwt, .int x_wt, .int x_op, .int x_jo, .ref mfg, .ref mpl, .long x_dr, .ref mtm, .ref mfa, .ref mqu, .ref mmo, .ref mwy, .ref mwn, .ref mma, .ref mwi, .ref mnu, .ref mmv])), (mma, .inl (c_ma, 4, .inl w_ma)), (mwi, .inl (c_wi, 4, .inl w_wi)), (mnu, .inl (c_nu, 240, .inr (.inl w_nu)))]) [0, 1, 2, 3] (by decide) rfl
        have hK9 := hK.sub (tys' := [(c_ma, .int), (c_wi, .int), (c_nu, .long)]) [0, 1, 2] rfl
        exact W.iret (v := (-2)) hx hb hr (fun t ht hW => ⟨⟨(-2), (), rfl, ⟨(rg_w (by decide : (-2 : Int) ≤ ((-2) : Int32).toInt ∧ ((-2) : Int32).toInt ≤ -2) (by decide) (by decide)), (ro_2 (by omega))⟩, w_ma, w_wi, w_nu, ha_mma, ha_mwi, by rw [ht]; exact hP9, va_K.moved hW.alike hK9, hD9⟩, hS.F ht⟩) hS.2.2 dX10_row_27
