theorem dX9_countedFigure_0 : decode cX9_countedFigure 0 = .ok (.iload_n 1, 1) := by decide +kernel
theorem dX9_countedFigure_1 : decode cX9_countedFigure 1 = .ok (.iconst 0, 1) := by decide +kernel
theorem dX9_countedFigure_2 : decode cX9_countedFigure 2 = .ok (.aload_n 0, 1) := by decide +kernel
theorem dX9_countedFigure_3 : decode cX9_countedFigure 3 = .ok (.getfield 68, 3) := by decide +kernel
theorem dX9_countedFigure_6 : decode cX9_countedFigure 6 = .ok (.arraylength, 1) := by decide +kernel
theorem dX9_countedFigure_7 : decode cX9_countedFigure 7 = .ok (.iconst 1, 1) := by decide +kernel
theorem dX9_countedFigure_8 : decode cX9_countedFigure 8 = .ok (.isub, 1) := by decide +kernel
theorem dX9_countedFigure_9 : decode cX9_countedFigure 9 = .ok (.invokestatic 158, 3) := by decide +kernel
theorem dX9_countedFigure_12 : decode cX9_countedFigure 12 = .ok (.ifCond .eq 12, 3) := by decide +kernel
theorem dX9_countedFigure_15 : decode cX9_countedFigure 15 = .ok (.aload_n 0, 1) := by decide +kernel
theorem dX9_countedFigure_16 : decode cX9_countedFigure 16 = .ok (.getfield 68, 3) := by decide +kernel
theorem dX9_countedFigure_19 : decode cX9_countedFigure 19 = .ok (.iload_n 1, 1) := by decide +kernel
theorem dX9_countedFigure_20 : decode cX9_countedFigure 20 = .ok (.iaload, 1) := by decide +kernel
theorem dX9_countedFigure_21 : decode cX9_countedFigure 21 = .ok (.goto 4, 3) := by decide +kernel
theorem dX9_countedFigure_24 : decode cX9_countedFigure 24 = .ok (.iconst 0, 1) := by decide +kernel
theorem dX9_countedFigure_25 : decode cX9_countedFigure 25 = .ok (.ireturn, 1) := by decide +kernel
theorem hd_yX9_countedFigure : yX9_countedFigure.cls = RX9 ∧ yX9_countedFigure.cls ≠ "java/lang/invoke/MethodHandle" ∧ yX9_countedFigure.cls ≠ "java/lang/invoke/VarHandle" ∧ (parseMethodDescriptor yX9_countedFigure.desc).map (fun d => d.parameters.length) = some 1 := by decide +kernel
def uX9_countedFigure : List Cond := List.cons (.code yX9_countedFigure cX9_countedFigure 2 (some .int)) (HAppend.hAppend ([.fieldLink RX9 68 "LuckyTicket" "figureCounts" "[I", .methodLink RX9 158 yX9_isWithin, .static yX9_isWithin, .initialized RX9] : List Cond) (HAppend.hAppend uX9_isWithin wsX90))
theorem iX9_countedFigure_X9 : ∀ w ∈ wsX90, w ∈ uX9_countedFigure := fun _ h => (List.mem_cons_of_mem _ (List.mem_append_right _ (List.mem_append_right _ h)))
theorem guX9_countedFigure : GU uX9_countedFigure := gu_cons (gu_app (by decide +kernel) (gu_ap guX9_isWithin gws_X9))
theorem gX9_countedFigure__X9_isWithin_S158 : GoodIn uX9_countedFigure (va_wsS RX9 158 yX9_isWithin uX9_isWithin) := gin_S (List.mem_of_getElem? (i := 2) rfl) (List.mem_of_getElem? (i := 3) rfl) (List.mem_of_getElem? (i := 4) rfl) (fun _ h => (List.mem_cons_of_mem _ (List.mem_append_right _ (List.mem_append_left _ h)))) guX9_isWithin
set_option maxHeartbeats 4000000 in
set_option maxRecDepth 100000 in
theorem kX9_countedFigure (l : Launch) (dC : Nat → ClassId) (dI : Nat → Nat → Nat) (h0 : Nat) (tp : Nat) (sc : Nat) (rd : Nat) (cu : Nat) (im : Nat) (ig : Nat) (sl : Nat) (se : Nat) (sm : Nat) (fc : Nat) (cG : ClassId) (fg : Nat → Int32) (a1 : Int32) : Met l yX9_countedFigure uX9_countedFigure ({ frames := 1, cells := 0, slots := 0, locals := 22 }) (va_Pc [.ref h0, .int a1] (pw (dC, dI) vwCl [(h0, .inr (7, [.ref tp, .ref sc, .ref rd, .ref cu, .ref im, .ref ig, .ref sl, .ref se, .ref sm, .ref fc])), (fc, .inl (cG, 16, .inl fg))] [(cG, .int)])) (vp_Si (fun r => True)) 0 0 (fun _ => False) := by
  refine Met.ofW (cc := cX9_countedFigure) (maxL := 2) (ret := (some .int)) pn_X9 rfl ?_
  intro p e s m args below meth c s₁ B hml hv
  obtain ⟨rfl, hP, hK, hN⟩ := hv
  have hx := B.exec
  have hb := B.bytes
  have hr := B.returns
  have hts := atoms_spec (ws := uX9_countedFigure) B.pre
  have hown : s.vm.findClass RX9 = some m.cls := hown_of B.named rfl
  have hlocks := B.notSynchronized
  have hl := lv_entry ([.ref h0, .int a1]) (n := 2) (Nat.le_of_ble_eq_true rfl)
  rw [lg_entry_eq]
  generalize (lg_sl ([.ref h0, .int a1]) ++ List.replicate (2 - (lg_sl ([.ref h0, .int a1])).length) Slot.unset).toArray = ls at hl ⊢
  have hl : lv_has ls 2 [(0, .ref h0), (1, .int a1)] := hl
  refine lv_iload_n hx hb dX9_countedFigure_0 rfl (lv_at hl 1 rfl) ?_
  refine lv_iconst (v := 0) hx hb dX9_countedFigure_1 (by decide) ?_
  refine lv_aload_n hx hb dX9_countedFigure_2 rfl (lv_at hl 0 rfl) ?_
  refine va_get (D := (dC, dI)) (ci := 7) (v := .ref fc) (C := RX9) (T := TX9) (N := 10) hx hb hts iX9_countedFigure_X9 hown hK hP 0 rfl rfl 9 (by decide) (hts (.fieldLink RX9 68 "LuckyTicket" "figureCounts" "[I") (List.mem_of_getElem? (i := 1) rfl)) (fun _ h9 => h9) rfl dX9_countedFigure_3 ?_
  refine va_alen (v := 16) hx hb hK hP 1 0 rfl rfl (by rfl) dX9_countedFigure_6 ?_
  refine lv_iconst (v := 1) hx hb dX9_countedFigure_7 (by decide) ?_
  refine lv_isub hx hb dX9_countedFigure_8 ?_
  refine lv_topi (fun z_6 e_z_6 => ?_)
  obtain rfl : z_6 = 15 := e_z_6.trans (by decide)
  refine vp_callSi (W.runS (As := [.int a1, .int 0, .int 15]) (rest := []) ⟨hx, hb, hml, hown, hts⟩ (kX9_isWithin l dC dI a1 0 15 ) (va_cwS 3 hts gX9_countedFigure__X9_isWithin_S158 rfl rfl rfl hd_yX9_isWithin.2 ⟨lel 1 1 rfl, lel 22 22 rfl⟩) ⟨pn_fb, pn_use⟩ rfl rfl hl.1 rfl (lv_room (Nat.le_of_ble_eq_true rfl)) dX9_countedFigure_9 ⟨lel 0 0 rfl, lel 0 0 rfl⟩) (fun r_7 h_r_7 => ?_)
  obtain ⟨b_r_7, nz_r_7⟩ := h_r_7
  have b_r_7 : (0 : Int) ≤ r_7.toInt ∧ r_7.toInt ≤ 1 := b_r_7
  refine lv_if_eq (tgt := 24) hx hb dX9_countedFigure_12 (by decide) (fun c_8 => ?_) (fun c_8 => ?_)
  ·
    have n_c_8 : (r_7.toInt : Int) = 0 := c_eq rfl (by decide) c_8
    have b_r_7 : (0 : Int) ≤ r_7.toInt ∧ r_7.toInt ≤ 0 := r_eq1 b_r_7 (by decide : (0 : Int) ≤ (0 : Int32).toInt ∧ (0 : Int32).toInt ≤ 0) n_c_8 (by decide)
    refine lv_iconst (v := 0) hx hb dX9_countedFigure_24 (by decide) ?_
    exact W.iret (v := 0) hx hb hr (fun t ht hW => ⟨0, rfl, trivial, ht⟩) t_nil dX9_countedFigure_25
  ·
    have n_c_8 : (r_7.toInt : Int) ≠ 0 := c_ne rfl (by decide) c_8
    have b_r_7 : (1 : Int) ≤ r_7.toInt ∧ r_7.toInt ≤ 1 := r_ne1 b_r_7 (by decide : (0 : Int) ≤ (0 : Int32).toInt ∧ (0 : Int32).toInt ≤ 0) n_c_8 (by decide)
    have g_9 := nz_r_7 c_8
    have lt0_g_9 := (by decide : (0 : Int32).toInt = 0)
    have lt1_g_9 := (by decide : (15 : Int32).toInt = 15)
    have b_a1 : (0 : Int) ≤ a1.toInt ∧ a1.toInt ≤ 15 := by
      have q0 := (ti_rng a1)
      have q1 := (by decide : (0 : Int) ≤ (0 : Int32).toInt ∧ (0 : Int32).toInt ≤ 0)
      have q2 := (by decide : (15 : Int) ≤ (15 : Int32).toInt ∧ (15 : Int32).toInt ≤ 15)
      omega
    refine lv_aload_n hx hb dX9_countedFigure_15 rfl (lv_at hl 0 rfl) ?_
    refine va_get (D := (dC, dI)) (ci := 7) (v := .ref fc) (C := RX9) (T := TX9) (N := 10) hx hb hts iX9_countedFigure_X9 hown hK hP 0 rfl rfl 9 (by decide) (hts (.fieldLink RX9 68 "LuckyTicket" "figureCounts" "[I") (List.mem_of_getElem? (i := 1) rfl)) (fun _ h9 => h9) rfl dX9_countedFigure_16 ?_
    refine lv_iload_n hx hb dX9_countedFigure_19 rfl (lv_at hl 1 rfl) ?_
    refine va_iald hx hb hK hP 1 0 rfl rfl (vp_in_b b_a1 (by decide) (by decide)) dX9_countedFigure_20 ?_
    refine lv_topi (fun z_10 e_z_10 => ?_)
    refine lv_goto (tgt := 25) hx hb dX9_countedFigure_21 (by decide) ?_
    exact W.iret (v := z_10) hx hb hr (fun t ht hW => ⟨z_10, rfl, trivial, ht⟩) t_nil dX9_countedFigure_25
theorem dX9_countFigures_0 : decode cX9_countFigures 0 = .ok (.aload_n 0, 1) := by decide +kernel
theorem dX9_countFigures_1 : decode cX9_countFigures 1 = .ok (.getfield 68, 3) := by decide +kernel
theorem dX9_countFigures_4 : decode cX9_countFigures 4 = .ok (.iconst 0, 1) := by decide +kernel
theorem dX9_countFigures_5 : decode cX9_countFigures 5 = .ok (.invokestatic 370, 3) := by decide +kernel
theorem dX9_countFigures_8 : decode cX9_countFigures 8 = .ok (.iconst 0, 1) := by decide +kernel
theorem dX9_countFigures_9 : decode cX9_countFigures 9 = .ok (.istore_n 3, 1) := by decide +kernel
theorem dX9_countFigures_10 : decode cX9_countFigures 10 = .ok (.iload_n 3, 1) := by decide +kernel
theorem dX9_countFigures_11 : decode cX9_countFigures 11 = .ok (.aload_n 0, 1) := by decide +kernel
theorem dX9_countFigures_12 : decode cX9_countFigures 12 = .ok (.getfield 35, 3) := by decide +kernel
theorem dX9_countFigures_15 : decode cX9_countFigures 15 = .ok (.getfield 155, 3) := by decide +kernel
theorem dX9_countFigures_18 : decode cX9_countFigures 18 = .ok (.if_icmp .ge 56, 3) := by decide +kernel
theorem dX9_countFigures_21 : decode cX9_countFigures 21 = .ok (.aload_n 0, 1) := by decide +kernel
theorem dX9_countFigures_22 : decode cX9_countFigures 22 = .ok (.getfield 35, 3) := by decide +kernel
theorem dX9_countFigures_25 : decode cX9_countFigures 25 = .ok (.iload_n 1, 1) := by decide +kernel
theorem dX9_countFigures_26 : decode cX9_countFigures 26 = .ok (.iload_n 3, 1) := by decide +kernel
theorem dX9_countFigures_27 : decode cX9_countFigures 27 = .ok (.invokevirtual 175, 3) := by decide +kernel
theorem dX9_countFigures_30 : decode cX9_countFigures 30 = .ok (.ifCond .eq 38, 3) := by decide +kernel
theorem dX9_countFigures_33 : decode cX9_countFigures 33 = .ok (.aload_n 0, 1) := by decide +kernel
theorem dX9_countFigures_34 : decode cX9_countFigures 34 = .ok (.getfield 35, 3) := by decide +kernel
theorem dX9_countFigures_37 : decode cX9_countFigures 37 = .ok (.iload_n 3, 1) := by decide +kernel
theorem dX9_countFigures_38 : decode cX9_countFigures 38 = .ok (.invokevirtual 106, 3) := by decide +kernel
theorem dX9_countFigures_41 : decode cX9_countFigures 41 = .ok (.aload_n 0, 1) := by decide +kernel
theorem dX9_countFigures_42 : decode cX9_countFigures 42 = .ok (.getfield 35, 3) := by decide +kernel
theorem dX9_countFigures_45 : decode cX9_countFigures 45 = .ok (.getfield 110, 3) := by decide +kernel
theorem dX9_countFigures_48 : decode cX9_countFigures 48 = .ok (.iload_n 2, 1) := by decide +kernel
theorem dX9_countFigures_49 : decode cX9_countFigures 49 = .ok (.invokestatic 113, 3) := by decide +kernel
theorem dX9_countFigures_52 : decode cX9_countFigures 52 = .ok (.istore 4, 2) := by decide +kernel
theorem dX9_countFigures_54 : decode cX9_countFigures 54 = .ok (.aload_n 0, 1) := by decide +kernel
theorem dX9_countFigures_55 : decode cX9_countFigures 55 = .ok (.getfield 68, 3) := by decide +kernel
theorem dX9_countFigures_58 : decode cX9_countFigures 58 = .ok (.iload 4, 2) := by decide +kernel
theorem dX9_countFigures_60 : decode cX9_countFigures 60 = .ok (.bipush 15, 2) := by decide +kernel
theorem dX9_countFigures_62 : decode cX9_countFigures 62 = .ok (.iand, 1) := by decide +kernel
theorem dX9_countFigures_63 : decode cX9_countFigures 63 = .ok (.dup2, 1) := by decide +kernel
theorem dX9_countFigures_64 : decode cX9_countFigures 64 = .ok (.iaload, 1) := by decide +kernel
theorem dX9_countFigures_65 : decode cX9_countFigures 65 = .ok (.iconst 1, 1) := by decide +kernel
theorem dX9_countFigures_66 : decode cX9_countFigures 66 = .ok (.iadd, 1) := by decide +kernel
theorem dX9_countFigures_67 : decode cX9_countFigures 67 = .ok (.iastore, 1) := by decide +kernel
theorem dX9_countFigures_68 : decode cX9_countFigures 68 = .ok (.iinc 3 1, 3) := by decide +kernel
theorem dX9_countFigures_71 : decode cX9_countFigures 71 = .ok (.goto (-61), 3) := by decide +kernel
theorem dX9_countFigures_74 : decode cX9_countFigures 74 = .ok (.return_, 1) := by decide +kernel
theorem hd_yX9_countFigures : yX9_countFigures.cls = RX9 ∧ yX9_countFigures.cls ≠ "java/lang/invoke/MethodHandle" ∧ yX9_countFigures.cls ≠ "java/lang/invoke/VarHandle" ∧ (parseMethodDescriptor yX9_countFigures.desc).map (fun d => d.parameters.length) = some 2 := by decide +kernel
def uX9_countFigures : List Cond := List.cons (.code yX9_countFigures cX9_countFigures 5 none) (HAppend.hAppend ([.fieldLink RX9 68 "LuckyTicket" "figureCounts" "[I", .methodLink RX9 370 yJ7_fill_53178, .static yJ7_fill_53178, .initialized RJ7, .fieldLink RX9 35 "LuckyTicket" "current" "LLuckyTicket$Roll;", .methodLink RX9 175 yX2_isLucky, .instanceMethod yX2_isLucky, .selects RX2 yX2_isLucky yX2_isLucky, .initialized RX2, .methodLink RX9 106 yX2_faceOf, .instanceMethod yX2_faceOf, .selects RX2 yX2_faceOf yX2_faceOf, .methodLink RX9 113 yX0_figureAt, .static yX0_figureAt, .initialized RX0] : List Cond) (HAppend.hAppend uJ7_fill_53178 (HAppend.hAppend uX2_isLucky (HAppend.hAppend uX2_faceOf (HAppend.hAppend uX0_figureAt (HAppend.hAppend wsX90 wsX20))))))
theorem iX9_countFigures_X9 : ∀ w ∈ wsX90, w ∈ uX9_countFigures := fun _ h => (List.mem_cons_of_mem _ (List.mem_append_right _ (List.mem_append_right _ (List.mem_append_right _ (List.mem_append_right _ (List.mem_append_right _ (List.mem_append_left _ h)))))))
theorem iX9_countFigures_X2 : ∀ w ∈ wsX20, w ∈ uX9_countFigures := fun _ h => (List.mem_cons_of_mem _ (List.mem_append_right _ (List.mem_append_right _ (List.mem_append_right _ (List.mem_append_right _ (List.mem_append_right _ (List.mem_append_right _ h)))))))
theorem guX9_countFigures : GU uX9_countFigures := gu_cons (gu_app (by decide +kernel) (gu_ap guJ7_fill_53178 (gu_ap guX2_isLucky (gu_ap guX2_faceOf (gu_ap guX0_figureAt (gu_ap gws_X9 gws_X2))))))
theorem gX9_countFigures__J7_fill_53178_S370 : GoodIn uX9_countFigures (va_wsS RX9 370 yJ7_fill_53178 uJ7_fill_53178) := gin_S (List.mem_of_getElem? (i := 2) rfl) (List.mem_of_getElem? (i := 3) rfl) (List.mem_of_getElem? (i := 4) rfl) (fun _ h => (List.mem_cons_of_mem _ (List.mem_append_right _ (List.mem_append_left _ h)))) guJ7_fill_53178
theorem gX9_countFigures__X2_isLucky_V175 : GoodIn uX9_countFigures (wsV RX9 175 RX2 yX2_isLucky uX2_isLucky) := gin_V (List.mem_of_getElem? (i := 6) rfl) (List.mem_of_getElem? (i := 7) rfl) (List.mem_of_getElem? (i := 8) rfl) (List.mem_of_getElem? (i := 9) rfl) (fun _ h => (List.mem_cons_of_mem _ (List.mem_append_right _ (List.mem_append_right _ (List.mem_append_left _ h))))) guX2_isLucky
theorem gX9_countFigures__X2_faceOf_V106 : GoodIn uX9_countFigures (wsV RX9 106 RX2 yX2_faceOf uX2_faceOf) := gin_V (List.mem_of_getElem? (i := 10) rfl) (List.mem_of_getElem? (i := 11) rfl) (List.mem_of_getElem? (i := 12) rfl) (List.mem_of_getElem? (i := 9) rfl) (fun _ h => (List.mem_cons_of_mem _ (List.mem_append_right _ (List.mem_append_right _ (List.mem_append_right _ (List.mem_append_left _ h)))))) guX2_faceOf
theorem gX9_countFigures__X0_figureAt_S113 : GoodIn uX9_countFigures (va_wsS RX9 113 yX0_figureAt uX0_figureAt) := gin_S (List.mem_of_getElem? (i := 13) rfl) (List.mem_of_getElem? (i := 14) rfl) (List.mem_of_getElem? (i := 15) rfl) (fun _ h => (List.mem_cons_of_mem _ (List.mem_append_right _ (List.mem_append_right _ (List.mem_append_right _ (List.mem_append_right _ (List.mem_append_left _ h))))))) guX0_figureAt
set_option maxHeartbeats 4000000 in
set_option maxRecDepth 100000 in
theorem kX9_countFigures (l : Launch) (dC : Nat → ClassId) (dI : Nat → Nat → Nat) (h0 : Nat) (tp : Nat) (sc : Nat) (rd : Nat) (cu : Nat) (im : Nat) (ig : Nat) (sl : Nat) (se : Nat) (sm : Nat) (fc : Nat) (ln : Int32) (bs : Int32) (tk : Int32) (lw : Int32) (li : Int32) (fa : Nat) (lu : Nat) (cL : ClassId) (nl : Nat) (fl : Nat → Int32) (cF : ClassId) (nf : Nat) (ff : Nat → Int64) (cG : ClassId) (fg : Nat → Int32) (a1 : Int32) (a2 : Int32) (sz : Nat) (b_ln : (0 : Int) ≤ ln.toInt ∧ ln.toInt ≤ 12) (b_bs : (0 : Int) ≤ bs.toInt ∧ bs.toInt ≤ 16) (b_tk : (0 : Int) ≤ tk.toInt ∧ tk.toInt ≤ 20000) (b_lw : (0 : Int) ≤ lw.toInt ∧ lw.toInt ≤ 9) (hl1 : tk.toInt ≤ (nl : Int)) (hf1 : tk.toInt ≤ (nf : Int)) : Met l yX9_countFigures uX9_countFigures ({ frames := 2, cells := 0, slots := 0, locals := 42 }) (va_Pc [.ref h0, .int a1, .int a2] (hw (dC, dI) vwCl [(h0, .inr (7, [.ref tp, .ref sc, .ref rd, .ref cu, .ref im, .ref ig, .ref sl, .ref se, .ref sm, .ref fc])), (cu, .inr (1, [.int ln, .int bs, .int tk, .int lw, .int li, .ref fa, .ref lu])), (lu, .inl (cL, nl, .inl fl)), (fa, .inl (cF, nf, .inr (.inl ff))), (fc, .inl (cG, 16, .inl fg))] [(cL, .int), (cF, .long), (cG, .int)] sz)) (va_Qv (fun (_ : Unit) => True) (fun (_ : Unit) t => ∃ (o0_ : Nat → Int32), va_P (dC, dI) vwCl [(h0, .inr (7, [.ref tp, .ref sc, .ref rd, .ref cu, .ref im, .ref ig, .ref sl, .ref se, .ref sm, .ref fc])), (cu, .inr (1, [.int ln, .int bs, .int tk, .int lw, .int li, .ref fa, .ref lu])), (lu, .inl (cL, nl, .inl fl)), (fa, .inl (cF, nf, .inr (.inl ff))), (fc, .inl (cG, 16, .inl o0_))] t.heap ∧ va_K (dC, dI) vwCl [(cL, .int), (cF, .long), (cG, .int)] t ∧ va_D (va_A [(h0, .inr (7, [.ref tp, .ref sc, .ref rd, .ref cu, .ref im, .ref ig, .ref sl, .ref se, .ref sm, .ref fc])), (cu, .inr (1, [.int ln, .int bs, .int tk, .int lw, .int li, .ref fa, .ref lu])), (lu, .inl (cL, nl, .inl fl)), (fa, .inl (cF, nf, .inr (.inl ff))), (fc, .inl (cG, 16, .inl fg))] sz) [(h0, .inr (7, [.ref tp, .ref sc, .ref rd, .ref cu, .ref im, .ref ig, .ref sl, .ref se, .ref sm, .ref fc])), (cu, .inr (1, [.int ln, .int bs, .int tk, .int lw, .int li, .ref fa, .ref lu])), (lu, .inl (cL, nl, .inl fl)), (fa, .inl (cF, nf, .inr (.inl ff))), (fc, .inl (cG, 16, .inl o0_))]) (va_A [(h0, .inr (7, [.ref tp, .ref sc, .ref rd, .ref cu, .ref im, .ref ig, .ref sl, .ref se, .ref sm, .ref fc])), (cu, .inr (1, [.int ln, .int bs, .int tk, .int lw, .int li, .ref fa, .ref lu])), (lu, .inl (cL, nl, .inl fl)), (fa, .inl (cF, nf, .inr (.inl ff))), (fc, .inl (cG, 16, .inl fg))] sz)) 0 0 (va_A [(h0, .inr (7, [.ref tp, .ref sc, .ref rd, .ref cu, .ref im, .ref ig, .ref sl, .ref se, .ref sm, .ref fc])), (cu, .inr (1, [.int ln, .int bs, .int tk, .int lw, .int li, .ref fa, .ref lu])), (lu, .inl (cL, nl, .inl fl)), (fa, .inl (cF, nf, .inr (.inl ff))), (fc, .inl (cG, 16, .inl fg))] sz) := by
  refine Met.ofW (cc := cX9_countFigures) (maxL := 5) (ret := none) pn_X9 rfl ?_
  intro p e s m args below meth c s₁ B hml hv
  obtain ⟨rfl, hsz, hP, hK, hD0, hN⟩ := hv
  have hx := B.exec
  have hb := B.bytes
  have hr := B.returns
  have hts := atoms_spec (ws := uX9_countFigures) B.pre
  have hown : s.vm.findClass RX9 = some m.cls := hown_of B.named rfl
  have hlocks := B.notSynchronized
  subst hsz
  have hD := hD0.self (sz := s.heap.size)
  generalize hAe : va_A [(h0, .inr (7, [.ref tp, .ref sc, .ref rd, .ref cu, .ref im, .ref ig, .ref sl, .ref se, .ref sm, .ref fc])), (cu, .inr (1, [.int ln, .int bs, .int tk, .int lw, .int li, .ref fa, .ref lu])), (lu, .inl (cL, nl, .inl fl)), (fa, .inl (cF, nf, .inr (.inl ff))), (fc, .inl (cG, 16, .inl fg))] s.heap.size = A at hD ⊢
  have hA : ∀ q : Nat, s.heap.size ≤ q → A q := fun q h => by rw [← hAe]; exact Or.inr h
  have hS : va_S A s.heap s.heap [] := va_S.rf
  have hP : va_P (dC, dI) vwCl [(h0, .inr (7, [.ref tp, .ref sc, .ref rd, .ref cu, .ref im, .ref ig, .ref sl, .ref se, .ref sm, .ref fc])), (cu, .inr (1, [.int ln, .int bs, .int tk, .int lw, .int li, .ref fa, .ref lu])), (lu, .inl (cL, nl, .inl fl)), (fa, .inl (cF, nf, .inr (.inl ff))), (fc, .inl (cG, 16, .inl fg))] s.heap := hP
  have hl := lv_entry ([.ref h0, .int a1, .int a2]) (n := 5) (Nat.le_of_ble_eq_true rfl)
  rw [lg_entry_eq]
  generalize (lg_sl ([.ref h0, .int a1, .int a2]) ++ List.replicate (5 - (lg_sl ([.ref h0, .int a1, .int a2])).length) Slot.unset).toArray = ls at hl ⊢
  have hl : lv_has ls 5 [(0, .ref h0), (1, .int a1), (2, .int a2)] := hl
  refine lv_aload_n hx hb dX9_countFigures_0 rfl (lv_at hl 0 rfl) ?_
  refine va_get (D := (dC, dI)) (ci := 7) (v := .ref fc) (C := RX9) (T := TX9) (N := 10) hx hb hts iX9_countFigures_X9 hown hK hP 0 rfl rfl 9 (by decide) (hts (.fieldLink RX9 68 "LuckyTicket" "figureCounts" "[I") (List.mem_of_getElem? (i := 1) rfl)) (fun _ h9 => h9) rfl dX9_countFigures_1 ?_
  refine lv_iconst (v := 0) hx hb dX9_countFigures_4 (by decide) ?_
  have hFc := va_free (wc := [(fc, .inl (cG, 16, .inl fg))]) hD hS hA [4] rfl
  refine va_callv (va_runS (As := [.ref fc, .int 0]) (rest := []) ⟨hx, hb, hml, hown, hts⟩ (kJ7_fill_53178 l dC dI fc cG 16 fg 0 (s.heap.size) (by omega)) (va_cwS 2 hts gX9_countFigures__J7_fill_53178_S370 rfl rfl rfl hd_yJ7_fill_53178.2 ⟨lel 1 2 rfl, lel 23 42 rfl⟩) ⟨hw_fb, (hw_use hP hD hK hN [4] rfl (by decide) rfl [2] rfl)⟩ rfl rfl hl.1 rfl (lv_room (Nat.le_of_ble_eq_true rfl)) dX9_countFigures_5 ⟨lel 0 0 rfl, lel 0 0 rfl⟩) hS (fun q _ h => hFc q h) hFc (fun u_228 t H1 locs ht hvm hw_r_227 hB hz1 hk1 hS => ?_)
  obtain ⟨o0_229, hP1, hK1, hD1⟩ := hB
  rw [ht] at hP1
  have hK1 := va_K.moved hvm.symm hK1
  obtain ⟨hP, hD⟩ := va_join (wr := [(h0, .inr (7, [.ref tp, .ref sc, .ref rd, .ref cu, .ref im, .ref ig, .ref sl, .ref se, .ref sm, .ref fc])), (cu, .inr (1, [.int ln, .int bs, .int tk, .int lw, .int li, .ref fa, .ref lu])), (lu, .inl (cL, nl, .inl fl)), (fa, .inl (cF, nf, .inr (.inl ff)))]) (w1 := [(fc, .inl (cG, 16, .inl o0_229))]) hP hD [4] [0, 1, 2, 3] rfl rfl (by decide) (by decide) hk1 hFc hP1 hD1
  have hK := (hK.sub (tys' := [(cL, .int), (cF, .long)]) [0, 1] rfl).app hK1
  generalize H1 = H at hP hS ⊢
  have hP : va_P (dC, dI) vwCl [(h0, .inr (7, [.ref tp, .ref sc, .ref rd, .ref cu, .ref im, .ref ig, .ref sl, .ref se, .ref sm, .ref fc])), (cu, .inr (1, [.int ln, .int bs, .int tk, .int lw, .int li, .ref fa, .ref lu])), (lu, .inl (cL, nl, .inl fl)), (fa, .inl (cF, nf, .inr (.inl ff))), (fc, .inl (cG, 16, .inl o0_229))] H := hP
  have hD : va_D A [(h0, .inr (7, [.ref tp, .ref sc, .ref rd, .ref cu, .ref im, .ref ig, .ref sl, .ref se, .ref sm, .ref fc])), (cu, .inr (1, [.int ln, .int bs, .int tk, .int lw, .int li, .ref fa, .ref lu])), (lu, .inl (cL, nl, .inl fl)), (fa, .inl (cF, nf, .inr (.inl ff))), (fc, .inl (cG, 16, .inl o0_229))] := hD
  have hK : va_K (dC, dI) vwCl [(cL, .int), (cF, .long), (cG, .int)] s := hK
  refine lv_iconst (v := 0) hx hb dX9_countFigures_8 (by decide) ?_
  refine lv_istore_n (lv' := [(3, .int 0), (0, .ref h0), (1, .int a1), (2, .int a2)]) hx hb dX9_countFigures_9 rfl hl (by decide) rfl (fun ls hl => ?_)
  refine loopW (σ := Int32 × (Nat → Int32)) (fun v => (20000 - v.1.toInt).toNat) (fun v H locs ls => ((0 : Int) ≤ v.1.toInt ∧ v.1.toInt ≤ 20000) ∧ va_P (dC, dI) vwCl [(h0, .inr (7, [.ref tp, .ref sc, .ref rd, .ref cu, .ref im, .ref ig, .ref sl, .ref se, .ref sm, .ref fc])), (cu, .inr (1, [.int ln, .int bs, .int tk, .int lw, .int li, .ref fa, .ref lu])), (lu, .inl (cL, nl, .inl fl)), (fa, .inl (cF, nf, .inr (.inl ff))), (fc, .inl (cG, 16, .inl v.2))] H ∧ va_D A [(h0, .inr (7, [.ref tp, .ref sc, .ref rd, .ref cu, .ref im, .ref ig, .ref sl, .ref se, .ref sm, .ref fc])), (cu, .inr (1, [.int ln, .int bs, .int tk, .int lw, .int li, .ref fa, .ref lu])), (lu, .inl (cL, nl, .inl fl)), (fa, .inl (cF, nf, .inr (.inl ff))), (fc, .inl (cG, 16, .inl v.2))] ∧ va_S A s.heap H locs ∧ lv_has ls 5 [(3, .int v.1), (0, .ref h0), (1, .int a1), (2, .int a2)]) (fun v H locs ls hI ih_10_435 => ?_) ((0 : Int32), o0_229) ⟨(show (0 : Int) ≤ (0 : Int32).toInt ∧ (0 : Int32).toInt ≤ 20000 from (rg_w (by decide : (0 : Int) ≤ (0 : Int32).toInt ∧ (0 : Int32).toInt ≤ 0) (by decide) (by decide))), hP, hD, hS, lv_sub hl [0, 1, 2, 3] rfl⟩
  obtain ⟨y_247, f_248⟩ := v
  obtain ⟨b_y_247, hP, hD, hS, hl⟩ := hI
  have b_y_247 : (0 : Int) ≤ y_247.toInt ∧ y_247.toInt ≤ 20000 := b_y_247
  have hP : va_P (dC, dI) vwCl [(h0, .inr (7, [.ref tp, .ref sc, .ref rd, .ref cu, .ref im, .ref ig, .ref sl, .ref se, .ref sm, .ref fc])), (cu, .inr (1, [.int ln, .int bs, .int tk, .int lw, .int li, .ref fa, .ref lu])), (lu, .inl (cL, nl, .inl fl)), (fa, .inl (cF, nf, .inr (.inl ff))), (fc, .inl (cG, 16, .inl f_248))] H := hP
  have hD : va_D A [(h0, .inr (7, [.ref tp, .ref sc, .ref rd, .ref cu, .ref im, .ref ig, .ref sl, .ref se, .ref sm, .ref fc])), (cu, .inr (1, [.int ln, .int bs, .int tk, .int lw, .int li, .ref fa, .ref lu])), (lu, .inl (cL, nl, .inl fl)), (fa, .inl (cF, nf, .inr (.inl ff))), (fc, .inl (cG, 16, .inl f_248))] := hD
  have hl : lv_has ls 5 [(3, .int y_247), (0, .ref h0), (1, .int a1), (2, .int a2)] := hl
  refine lv_iload_n hx hb dX9_countFigures_10 rfl (lv_at hl 0 rfl) ?_
  refine lv_aload_n hx hb dX9_countFigures_11 rfl (lv_at hl 1 rfl) ?_
  refine va_get (D := (dC, dI)) (ci := 7) (v := .ref cu) (C := RX9) (T := TX9) (N := 10) hx hb hts iX9_countFigures_X9 hown hK hP 0 rfl rfl 3 (by decide) (hts (.fieldLink RX9 35 "LuckyTicket" "current" "LLuckyTicket$Roll;") (List.mem_of_getElem? (i := 5) rfl)) (fun _ h9 => h9) rfl dX9_countFigures_12 ?_
  refine va_getN (own := RX9) (index := 155) (ref := RX2) (host := RX9) (D := (dC, dI)) (ci := 1) (v := .int tk) (C := RX2) (T := TX2) (N := 7) hx hb hts iX9_countFigures_X2 hown hK hP 1 rfl rfl 2 (by decide) (va_Nw.use rfl (hN _ (List.mem_of_getElem? (i := 18) rfl))) (fun _ h9 => h9) rfl dX9_countFigures_15 ?_
  refine lv_icmp_ge (tgt := 74) hx hb dX9_countFigures_18 (by decide) (fun c_436 => ?_) (fun c_436 => ?_)
  ·
    have n_c_436 : (tk.toInt : Int) ≤ y_247.toInt := c_ge rfl rfl c_436
    have hP9 := hP.sub (ws' := [(h0, .inr (7, [.ref tp, .ref sc, .ref rd, .ref cu, .ref im, .ref ig, .ref sl, .ref se, .ref sm, .ref fc])), (cu, .inr (1, [.int ln, .int bs, .int tk, .int lw, .int li, .ref fa, .ref lu])), (lu, .inl (cL, nl, .inl fl)), (fa, .inl (cF, nf, .inr (.inl ff))), (fc, .inl (cG, 16, .inl f_248))]) [0, 1, 2, 3, 4] rfl
    have hD9 := hD.sub (ws' := [(h0, .inr (7, [.ref tp, .ref sc, .ref rd, .ref cu, .ref im, .ref ig, .ref sl, .ref se, .ref sm, .ref fc])), (cu, .inr (1, [.int ln, .int bs, .int tk, .int lw, .int li, .ref fa, .ref lu])), (lu, .inl (cL, nl, .inl fl)), (fa, .inl (cF, nf, .inr (.inl ff))), (fc, .inl (cG, 16, .inl f_248))]) [0, 1, 2, 3, 4] (by decide) rfl
    have hK9 := hK.sub (tys' := [(cL, .int), (cF, .long), (cG, .int)]) [0, 1, 2] rfl
    exact W.vret hx hb hr (fun t ht hW => ⟨⟨(), rfl, trivial, f_248, by rw [ht]; exact hP9, va_K.moved hW.alike hK9, hD9⟩, hS.F ht⟩) hS.2.2 dX9_countFigures_74
  ·
    have n_c_436 : (y_247.toInt : Int) < tk.toInt := c_nge rfl rfl c_436
    have b_y_247 : (0 : Int) ≤ y_247.toInt ∧ y_247.toInt ≤ 19999 := r_lt1 b_y_247 b_tk n_c_436 (by decide)
    have b_tk : (1 : Int) ≤ tk.toInt ∧ tk.toInt ≤ 20000 := r_lt2 b_y_247 b_tk n_c_436 (by decide)
    refine lv_aload_n hx hb dX9_countFigures_21 rfl (lv_at hl 1 rfl) ?_
    refine va_get (D := (dC, dI)) (ci := 7) (v := .ref cu) (C := RX9) (T := TX9) (N := 10) hx hb hts iX9_countFigures_X9 hown hK hP 0 rfl rfl 3 (by decide) (hts (.fieldLink RX9 35 "LuckyTicket" "current" "LLuckyTicket$Roll;") (List.mem_of_getElem? (i := 5) rfl)) (fun _ h9 => h9) rfl dX9_countFigures_22 ?_
    refine lv_iload_n hx hb dX9_countFigures_25 rfl (lv_at hl 2 rfl) ?_
    refine lv_iload_n hx hb dX9_countFigures_26 rfl (lv_at hl 0 rfl) ?_
    refine vp_callSi (W.runV (As := [.int a1, .int y_247]) (rest := []) ⟨hx, hb, hml, hown, hts⟩ (kX2_isLucky l dC dI cu ln bs tk lw li fa lu cL nl fl a1 y_247 b_ln b_bs (rg_w b_tk (by decide) (by decide)) b_lw (by omega)) (cwV 2 hts gX9_countFigures__X2_isLucky_V175 rfl rfl rfl hd_yX2_isLucky ⟨lel 1 2 rfl, lel 22 42 rfl⟩) ⟨pw_fb, rcv_X2 hK hP (q0 := 1) rfl, (pw_use hP hK hN [1, 2] rfl [0] rfl)⟩ rfl rfl hl.1 rfl (lv_room (Nat.le_of_ble_eq_true rfl)) dX9_countFigures_27 ⟨lel 0 0 rfl, lel 0 0 rfl⟩) (fun r_437 h_r_437 => ?_)
    have b_r_437 := h_r_437
    have b_r_437 : (0 : Int) ≤ r_437.toInt ∧ r_437.toInt ≤ 1 := b_r_437
    refine cutW (σ := (Nat → Int32)) (pc2 := 68) (st2 := fun v => []) (cells2 := 0) (slots2 := 0) (fun v H locs ls => va_P (dC, dI) vwCl [(h0, .inr (7, [.ref tp, .ref sc, .ref rd, .ref cu, .ref im, .ref ig, .ref sl, .ref se, .ref sm, .ref fc])), (cu, .inr (1, [.int ln, .int bs, .int tk, .int lw, .int li, .ref fa, .ref lu])), (lu, .inl (cL, nl, .inl fl)), (fa, .inl (cF, nf, .inr (.inl ff))), (fc, .inl (cG, 16, .inl v))] H ∧ va_D A [(h0, .inr (7, [.ref tp, .ref sc, .ref rd, .ref cu, .ref im, .ref ig, .ref sl, .ref se, .ref sm, .ref fc])), (cu, .inr (1, [.int ln, .int bs, .int tk, .int lw, .int li, .ref fa, .ref lu])), (lu, .inl (cL, nl, .inl fl)), (fa, .inl (cF, nf, .inr (.inl ff))), (fc, .inl (cG, 16, .inl v))] ∧ va_S A s.heap H locs ∧ lv_has ls 5 [(3, .int y_247), (0, .ref h0), (1, .int a1), (2, .int a2)]) (fun v H locs ls hI => ?_) (fun hj_68_445 => ?_)
    ·
      obtain ⟨f_445, rfl⟩ : ∃ z, z = v := ⟨_, rfl⟩
      obtain ⟨hP, hD, hS, hl⟩ := hI
      have hP : va_P (dC, dI) vwCl [(h0, .inr (7, [.ref tp, .ref sc, .ref rd, .ref cu, .ref im, .ref ig, .ref sl, .ref se, .ref sm, .ref fc])), (cu, .inr (1, [.int ln, .int bs, .int tk, .int lw, .int li, .ref fa, .ref lu])), (lu, .inl (cL, nl, .inl fl)), (fa, .inl (cF, nf, .inr (.inl ff))), (fc, .inl (cG, 16, .inl f_445))] H := hP
      have hD : va_D A [(h0, .inr (7, [.ref tp, .ref sc, .ref rd, .ref cu, .ref im, .ref ig, .ref sl, .ref se, .ref sm, .ref fc])), (cu, .inr (1, [.int ln, .int bs, .int tk, .int lw, .int li, .ref fa, .ref lu])), (lu, .inl (cL, nl, .inl fl)), (fa, .inl (cF, nf, .inr (.inl ff))), (fc, .inl (cG, 16, .inl f_445))] := hD
      have hl : lv_has ls 5 [(3, .int y_247), (0, .ref h0), (1, .int a1), (2, .int a2)] := hl
      obtain ⟨z_446, e_z_446⟩ : ∃ y : Int32, y = y_247 + 1 := ⟨_, rfl⟩
      refine lv_iinc (v := z_446) (lv' := [(3, .int z_446), (0, .ref h0), (1, .int a1), (2, .int a2)]) hx hb dX9_countFigures_68 hl (k := 0) rfl (by rw [e_z_446]; rfl) (by decide) rfl (fun ls hl => ?_)
      obtain ⟨q_z_446, b_z_446⟩ := ti_add (lo := 1) (hi := 20000) e_z_446 rfl (by decide : (1 : Int32).toInt = 1) b_y_247 (by decide : (1 : Int) ≤ (1 : Int32).toInt ∧ (1 : Int32).toInt ≤ 1) (by decide)
      refine lv_goto (tgt := 10) hx hb dX9_countFigures_71 (by decide) ?_
      exact ih_10_435 (z_446, f_445) _ _ _ ⟨(show (0 : Int) ≤ z_446.toInt ∧ z_446.toInt ≤ 20000 from (rg_w b_z_446 (by decide) (by decide))), hP, hD, hS, lv_sub hl [0, 1, 2, 3] rfl⟩ (show (20000 - z_446.toInt).toNat < (20000 - y_247.toInt).toNat by omega)
    ·
      refine lv_if_eq (tgt := 68) hx hb dX9_countFigures_30 (by decide) (fun c_438 => ?_) (fun c_438 => ?_)
      ·
        have n_c_438 : (r_437.toInt : Int) = 0 := c_eq rfl (by decide) c_438
        have b_r_437 : (0 : Int) ≤ r_437.toInt ∧ r_437.toInt ≤ 0 := r_eq1 b_r_437 (by decide : (0 : Int) ≤ (0 : Int32).toInt ∧ (0 : Int32).toInt ≤ 0) n_c_438 (by decide)
        exact hj_68_445 f_248 _ _ _ ⟨hP, hD, hS, lv_sub hl [0, 1, 2, 3] rfl⟩
      ·
        have n_c_438 : (r_437.toInt : Int) ≠ 0 := c_ne rfl (by decide) c_438
        have b_r_437 : (1 : Int) ≤ r_437.toInt ∧ r_437.toInt ≤ 1 := r_ne1 b_r_437 (by decide : (0 : Int) ≤ (0 : Int32).toInt ∧ (0 : Int32).toInt ≤ 0) n_c_438 (by decide)
        refine lv_aload_n hx hb dX9_countFigures_33 rfl (lv_at hl 1 rfl) ?_
        refine va_get (D := (dC, dI)) (ci := 7) (v := .ref cu) (C := RX9) (T := TX9) (N := 10) hx hb hts iX9_countFigures_X9 hown hK hP 0 rfl rfl 3 (by decide) (hts (.fieldLink RX9 35 "LuckyTicket" "current" "LLuckyTicket$Roll;") (List.mem_of_getElem? (i := 5) rfl)) (fun _ h9 => h9) rfl dX9_countFigures_34 ?_
        refine lv_iload_n hx hb dX9_countFigures_37 rfl (lv_at hl 0 rfl) ?_
        refine vp_callSl (W.runV (As := [.int y_247]) (rest := []) ⟨hx, hb, hml, hown, hts⟩ (kX2_faceOf l dC dI cu ln bs tk lw li fa lu cF nf ff y_247 b_ln b_bs (rg_w b_tk (by decide) (by decide)) b_lw (by omega)) (cwV 1 hts gX9_countFigures__X2_faceOf_V106 rfl rfl rfl hd_yX2_faceOf ⟨lel 2 2 rfl, lel 42 42 rfl⟩) ⟨pw_fb, rcv_X2 hK hP (q0 := 1) rfl, (pw_use hP hK hN [1, 3] rfl [1] rfl)⟩ rfl rfl hl.1 rfl (lv_room (Nat.le_of_ble_eq_true rfl)) dX9_countFigures_38 ⟨lel 0 0 rfl, lel 0 0 rfl⟩) (fun r_447 h_r_447 => ?_)
        refine lv_aload_n hx hb dX9_countFigures_41 rfl (lv_at hl 1 rfl) ?_
        refine va_get (D := (dC, dI)) (ci := 7) (v := .ref cu) (C := RX9) (T := TX9) (N := 10) hx hb hts iX9_countFigures_X9 hown hK hP 0 rfl rfl 3 (by decide) (hts (.fieldLink RX9 35 "LuckyTicket" "current" "LLuckyTicket$Roll;") (List.mem_of_getElem? (i := 5) rfl)) (fun _ h9 => h9) rfl dX9_countFigures_42 ?_
        refine va_getN (own := RX9) (index := 110) (ref := RX2) (host := RX9) (D := (dC, dI)) (ci := 1) (v := .int ln) (C := RX2) (T := TX2) (N := 7) hx hb hts iX9_countFigures_X2 hown hK hP 1 rfl rfl 0 (by decide) (va_Nw.use rfl (hN _ (List.mem_of_getElem? (i := 14) rfl))) (fun _ h9 => h9) rfl dX9_countFigures_45 ?_
        refine lv_iload_n hx hb dX9_countFigures_48 rfl (lv_at hl 3 rfl) ?_
        refine vp_callSi (W.runS (As := [.long r_447, .int ln, .int a2]) (rest := []) ⟨hx, hb, hml, hown, hts⟩ (kX0_figureAt l dC dI r_447 ln a2 ) (va_cwS 3 hts gX9_countFigures__X0_figureAt_S113 rfl rfl rfl hd_yX0_figureAt.2 ⟨lel 1 2 rfl, lel 23 42 rfl⟩) ⟨pn_fb, pn_use⟩ rfl rfl hl.1 rfl (lv_room (Nat.le_of_ble_eq_true rfl)) dX9_countFigures_49 ⟨lel 0 0 rfl, lel 0 0 rfl⟩) (fun r_448 h_r_448 => ?_)
        have b_r_448 := h_r_448
        have b_r_448 : (0 : Int) ≤ r_448.toInt ∧ r_448.toInt ≤ 15 := b_r_448
        refine lv_istore (lv' := [(4, .int r_448), (3, .int y_247), (0, .ref h0), (1, .int a1), (2, .int a2)]) hx hb dX9_countFigures_52 hl (by decide) rfl (fun ls hl => ?_)
        refine lv_aload_n hx hb dX9_countFigures_54 rfl (lv_at hl 2 rfl) ?_
        refine va_get (D := (dC, dI)) (ci := 7) (v := .ref fc) (C := RX9) (T := TX9) (N := 10) hx hb hts iX9_countFigures_X9 hown hK hP 0 rfl rfl 9 (by decide) (hts (.fieldLink RX9 68 "LuckyTicket" "figureCounts" "[I") (List.mem_of_getElem? (i := 1) rfl)) (fun _ h9 => h9) rfl dX9_countFigures_55 ?_
        refine lv_iload hx hb dX9_countFigures_58 (lv_at hl 0 rfl) ?_
        refine lv_bipush (v := 15) hx hb dX9_countFigures_60 (by decide) ?_
        refine lv_iand hx hb dX9_countFigures_62 ?_
        refine lv_topi (fun z_449 e_z_449 => ?_)
        have b_z_449 : (0 : Int) ≤ z_449.toInt ∧ z_449.toInt ≤ 15 := ti_and (k := 4) e_z_449 (by decide) (by decide) (by decide)
        refine lv_dup2_11 hx hb dX9_countFigures_63 rfl rfl ?_
        refine va_iald hx hb hK hP 4 2 rfl rfl (vp_in_b b_z_449 (by decide) (by decide)) dX9_countFigures_64 ?_
        refine lv_topi (fun z_450 e_z_450 => ?_)
        refine lv_iconst (v := 1) hx hb dX9_countFigures_65 (by decide) ?_
        refine lv_iadd hx hb dX9_countFigures_66 ?_
        refine lv_topi (fun z_451 e_z_451 => ?_)
        refine va_iast hx hb hK hP hD hS 4 2 rfl rfl (vp_in_b b_z_449 (by decide) (by decide)) dX9_countFigures_67 (fun H locs hP hD hS => ?_)
        have hP : va_P (dC, dI) vwCl [(h0, .inr (7, [.ref tp, .ref sc, .ref rd, .ref cu, .ref im, .ref ig, .ref sl, .ref se, .ref sm, .ref fc])), (cu, .inr (1, [.int ln, .int bs, .int tk, .int lw, .int li, .ref fa, .ref lu])), (lu, .inl (cL, nl, .inl fl)), (fa, .inl (cF, nf, .inr (.inl ff))), (fc, .inl (cG, 16, .inl (upd f_248 (z_449 : Int32).toNatClampNeg z_451)))] H := hP
        have hD : va_D A [(h0, .inr (7, [.ref tp, .ref sc, .ref rd, .ref cu, .ref im, .ref ig, .ref sl, .ref se, .ref sm, .ref fc])), (cu, .inr (1, [.int ln, .int bs, .int tk, .int lw, .int li, .ref fa, .ref lu])), (lu, .inl (cL, nl, .inl fl)), (fa, .inl (cF, nf, .inr (.inl ff))), (fc, .inl (cG, 16, .inl (upd f_248 (z_449 : Int32).toNatClampNeg z_451)))] := hD
        generalize (upd f_248 (z_449 : Int32).toNatClampNeg z_451) = f_452 at hP hD
        have hP : va_P (dC, dI) vwCl [(h0, .inr (7, [.ref tp, .ref sc, .ref rd, .ref cu, .ref im, .ref ig, .ref sl, .ref se, .ref sm, .ref fc])), (cu, .inr (1, [.int ln, .int bs, .int tk, .int lw, .int li, .ref fa, .ref lu])), (lu, .inl (cL, nl, .inl fl)), (fa, .inl (cF, nf, .inr (.inl ff))), (fc, .inl (cG, 16, .inl f_452))] H := hP
        have hD : va_D A [(h0, .inr (7, [.ref tp, .ref sc, .ref rd, .ref cu, .ref im, .ref ig, .ref sl, .ref se, .ref sm, .ref fc])), (cu, .inr (1, [.int ln, .int bs, .int tk, .int lw, .int li, .ref fa, .ref lu])), (lu, .inl (cL, nl, .inl fl)), (fa, .inl (cF, nf, .inr (.inl ff))), (fc, .inl (cG, 16, .inl f_452))] := hD
        exact hj_68_445 f_452 _ _ _ ⟨hP, hD, hS, lv_sub hl [1, 2, 3, 4] rfl⟩
theorem dX9_at_0 : decode cX9_at 0 = .ok (.aload_n 0, 1) := by decide +kernel
theorem dX9_at_1 : decode cX9_at 1 = .ok (.getfield 35, 3) := by decide +kernel
theorem dX9_at_4 : decode cX9_at 4 = .ok (.iload_n 1, 1) := by decide +kernel
theorem dX9_at_5 : decode cX9_at 5 = .ok (.invokevirtual 149, 3) := by decide +kernel
theorem dX9_at_8 : decode cX9_at 8 = .ok (.ifCond .eq 26, 3) := by decide +kernel
theorem dX9_at_11 : decode cX9_at 11 = .ok (.aload_n 0, 1) := by decide +kernel
theorem dX9_at_12 : decode cX9_at 12 = .ok (.getfield 35, 3) := by decide +kernel
theorem dX9_at_15 : decode cX9_at 15 = .ok (.iload_n 2, 1) := by decide +kernel
theorem dX9_at_16 : decode cX9_at 16 = .ok (.invokevirtual 103, 3) := by decide +kernel
theorem dX9_at_19 : decode cX9_at 19 = .ok (.ifCond .eq 15, 3) := by decide +kernel
theorem dX9_at_22 : decode cX9_at 22 = .ok (.aload_n 0, 1) := by decide +kernel
theorem dX9_at_23 : decode cX9_at 23 = .ok (.getfield 35, 3) := by decide +kernel
theorem dX9_at_26 : decode cX9_at 26 = .ok (.iload_n 3, 1) := by decide +kernel
theorem dX9_at_27 : decode cX9_at 27 = .ok (.i2l, 1) := by decide +kernel
theorem dX9_at_28 : decode cX9_at 28 = .ok (.invokevirtual 236, 3) := by decide +kernel
theorem dX9_at_31 : decode cX9_at 31 = .ok (.ifCond .ne 6, 3) := by decide +kernel
theorem dX9_at_34 : decode cX9_at 34 = .ok (.bipush (-2), 2) := by decide +kernel
theorem dX9_at_36 : decode cX9_at 36 = .ok (.ireturn, 1) := by decide +kernel
theorem dX9_at_37 : decode cX9_at 37 = .ok (.aload_n 0, 1) := by decide +kernel
theorem dX9_at_38 : decode cX9_at 38 = .ok (.iload_n 1, 1) := by decide +kernel
theorem dX9_at_39 : decode cX9_at 39 = .ok (.iload_n 2, 1) := by decide +kernel
theorem dX9_at_40 : decode cX9_at 40 = .ok (.invokevirtual 279, 3) := by decide +kernel
theorem dX9_at_43 : decode cX9_at 43 = .ok (.aload_n 0, 1) := by decide +kernel
theorem dX9_at_44 : decode cX9_at 44 = .ok (.iload_n 3, 1) := by decide +kernel
theorem dX9_at_45 : decode cX9_at 45 = .ok (.invokevirtual 283, 3) := by decide +kernel
theorem dX9_at_48 : decode cX9_at 48 = .ok (.ireturn, 1) := by decide +kernel
theorem hd_yX9_at : yX9_at.cls = RX9 ∧ yX9_at.cls ≠ "java/lang/invoke/MethodHandle" ∧ yX9_at.cls ≠ "java/lang/invoke/VarHandle" ∧ (parseMethodDescriptor yX9_at.desc).map (fun d => d.parameters.length) = some 3 := by decide +kernel
def uX9_at : List Cond := List.cons (.code yX9_at cX9_at 4 (some .int)) (HAppend.hAppend ([.fieldLink RX9 35 "LuckyTicket" "current" "LLuckyTicket$Roll;", .methodLink RX9 149 yX2_hasLaw, .instanceMethod yX2_hasLaw, .selects RX2 yX2_hasLaw yX2_hasLaw, .initialized RX2, .methodLink RX9 103 yX2_hasPlace, .instanceMethod yX2_hasPlace, .selects RX2 yX2_hasPlace yX2_hasPlace, .methodLink RX9 236 yX2_hasFigure, .instanceMethod yX2_hasFigure, .selects RX2 yX2_hasFigure yX2_hasFigure, .methodLink RX9 279 yX9_countFigures, .instanceMethod yX9_countFigures, .selects RX9 yX9_countFigures yX9_countFigures, .initialized RX9, .methodLink RX9 283 yX9_countedFigure, .instanceMethod yX9_countedFigure, .selects RX9 yX9_countedFigure yX9_countedFigure] : List Cond) (HAppend.hAppend uX2_hasLaw (HAppend.hAppend uX2_hasPlace (HAppend.hAppend uX2_hasFigure (HAppend.hAppend uX9_countFigures (HAppend.hAppend uX9_countedFigure wsX90))))))
theorem iX9_at_X9 : ∀ w ∈ wsX90, w ∈ uX9_at := fun _ h => (List.mem_cons_of_mem _ (List.mem_append_right _ (List.mem_append_right _ (List.mem_append_right _ (List.mem_append_right _ (List.mem_append_right _ (List.mem_append_right _ h)))))))
theorem guX9_at : GU uX9_at := gu_cons (gu_app (by decide +kernel) (gu_ap guX2_hasLaw (gu_ap guX2_hasPlace (gu_ap guX2_hasFigure (gu_ap guX9_countFigures (gu_ap guX9_countedFigure gws_X9))))))
theorem gX9_at__X2_hasLaw_V149 : GoodIn uX9_at (wsV RX9 149 RX2 yX2_hasLaw uX2_hasLaw) := gin_V (List.mem_of_getElem? (i := 2) rfl) (List.mem_of_getElem? (i := 3) rfl) (List.mem_of_getElem? (i := 4) rfl) (List.mem_of_getElem? (i := 5) rfl) (fun _ h => (List.mem_cons_of_mem _ (List.mem_append_right _ (List.mem_append_left _ h)))) guX2_hasLaw
theorem gX9_at__X2_hasPlace_V103 : GoodIn uX9_at (wsV RX9 103 RX2 yX2_hasPlace uX2_hasPlace) := gin_V (List.mem_of_getElem? (i := 6) rfl) (List.mem_of_getElem? (i := 7) rfl) (List.mem_of_getElem? (i := 8) rfl) (List.mem_of_getElem? (i := 5) rfl) (fun _ h => (List.mem_cons_of_mem _ (List.mem_append_right _ (List.mem_append_right _ (List.mem_append_left _ h))))) guX2_hasPlace
theorem gX9_at__X2_hasFigure_V236 : GoodIn uX9_at (wsV RX9 236 RX2 yX2_hasFigure uX2_hasFigure) := gin_V (List.mem_of_getElem? (i := 9) rfl) (List.mem_of_getElem? (i := 10) rfl) (List.mem_of_getElem? (i := 11) rfl) (List.mem_of_getElem? (i := 5) rfl) (fun _ h => (List.mem_cons_of_mem _ (List.mem_append_right _ (List.mem_append_right _ (List.mem_append_right _ (List.mem_append_left _ h)))))) guX2_hasFigure
theorem gX9_at__X9_countFigures_V279 : GoodIn uX9_at (wsV RX9 279 RX9 yX9_countFigures uX9_countFigures) := gin_V (List.mem_of_getElem? (i := 12) rfl) (List.mem_of_getElem? (i := 13) rfl) (List.mem_of_getElem? (i := 14) rfl) (List.mem_of_getElem? (i := 15) rfl) (fun _ h => (List.mem_cons_of_mem _ (List.mem_append_right _ (List.mem_append_right _ (List.mem_append_right _ (List.mem_append_right _ (List.mem_append_left _ h))))))) guX9_countFigures
theorem gX9_at__X9_countedFigure_V283 : GoodIn uX9_at (wsV RX9 283 RX9 yX9_countedFigure uX9_countedFigure) := gin_V (List.mem_of_getElem? (i := 16) rfl) (List.mem_of_getElem? (i := 17) rfl) (List.mem_of_getElem? (i := 18) rfl) (List.mem_of_getElem? (i := 15) rfl) (fun _ h => (List.mem_cons_of_mem _ (List.mem_append_right _ (List.mem_append_right _ (List.mem_append_right _ (List.mem_append_right _ (List.mem_append_right _ (List.mem_append_left _ h)))))))) guX9_countedFigure
set_option maxHeartbeats 4000000 in
set_option maxRecDepth 100000 in
theorem kX9_at (l : Launch) (dC : Nat → ClassId) (dI : Nat → Nat → Nat) (h0 : Nat) (tp : Nat) (sc : Nat) (rd : Nat) (cu : Nat) (im : Nat) (ig : Nat) (sl : Nat) (se : Nat) (sm : Nat) (fc : Nat) (ln : Int32) (bs : Int32) (tk : Int32) (lw : Int32) (li : Int32) (fa : Nat) (lu : Nat) (cL : ClassId) (nl : Nat) (fl : Nat → Int32) (cF : ClassId) (nf : Nat) (ff : Nat → Int64) (cG : ClassId) (fg : Nat → Int32) (a1 : Int32) (a2 : Int32) (a3 : Int32) (sz : Nat) (b_ln : (0 : Int) ≤ ln.toInt ∧ ln.toInt ≤ 12) (b_bs : (0 : Int) ≤ bs.toInt ∧ bs.toInt ≤ 16) (b_tk : (0 : Int) ≤ tk.toInt ∧ tk.toInt ≤ 20000) (b_lw : (0 : Int) ≤ lw.toInt ∧ lw.toInt ≤ 9) (hl1 : tk.toInt ≤ (nl : Int)) (hf1 : tk.toInt ≤ (nf : Int)) : Met l yX9_at uX9_at ({ frames := 3, cells := 0, slots := 0, locals := 66 }) (va_Pc [.ref h0, .int a1, .int a2, .int a3] (hw (dC, dI) vwCl [(h0, .inr (7, [.ref tp, .ref sc, .ref rd, .ref cu, .ref im, .ref ig, .ref sl, .ref se, .ref sm, .ref fc])), (cu, .inr (1, [.int ln, .int bs, .int tk, .int lw, .int li, .ref fa, .ref lu])), (lu, .inl (cL, nl, .inl fl)), (fa, .inl (cF, nf, .inr (.inl ff))), (fc, .inl (cG, 16, .inl fg))] [(cL, .int), (cF, .long), (cG, .int)] sz)) (va_Qi (fun (r : Int32) (_ : Unit) => True) (fun (_ : Unit) t => ∃ (o0_ : Nat → Int32), va_P (dC, dI) vwCl [(h0, .inr (7, [.ref tp, .ref sc, .ref rd, .ref cu, .ref im, .ref ig, .ref sl, .ref se, .ref sm, .ref fc])), (cu, .inr (1, [.int ln, .int bs, .int tk, .int lw, .int li, .ref fa, .ref lu])), (lu, .inl (cL, nl, .inl fl)), (fa, .inl (cF, nf, .inr (.inl ff))), (fc, .inl (cG, 16, .inl o0_))] t.heap ∧ va_K (dC, dI) vwCl [(cL, .int), (cF, .long), (cG, .int)] t ∧ va_D (va_A [(h0, .inr (7, [.ref tp, .ref sc, .ref rd, .ref cu, .ref im, .ref ig, .ref sl, .ref se, .ref sm, .ref fc])), (cu, .inr (1, [.int ln, .int bs, .int tk, .int lw, .int li, .ref fa, .ref lu])), (lu, .inl (cL, nl, .inl fl)), (fa, .inl (cF, nf, .inr (.inl ff))), (fc, .inl (cG, 16, .inl fg))] sz) [(h0, .inr (7, [.ref tp, .ref sc, .ref rd, .ref cu, .ref im, .ref ig, .ref sl, .ref se, .ref sm, .ref fc])), (cu, .inr (1, [.int ln, .int bs, .int tk, .int lw, .int li, .ref fa, .ref lu])), (lu, .inl (cL, nl, .inl fl)), (fa, .inl (cF, nf, .inr (.inl ff))), (fc, .inl (cG, 16, .inl o0_))]) (va_A [(h0, .inr (7, [.ref tp, .ref sc, .ref rd, .ref cu, .ref im, .ref ig, .ref sl, .ref se, .ref sm, .ref fc])), (cu, .inr (1, [.int ln, .int bs, .int tk, .int lw, .int li, .ref fa, .ref lu])), (lu, .inl (cL, nl, .inl fl)), (fa, .inl (cF, nf, .inr (.inl ff))), (fc, .inl (cG, 16, .inl fg))] sz)) 0 0 (va_A [(h0, .inr (7, [.ref tp, .ref sc, .ref rd, .ref cu, .ref im, .ref ig, .ref sl, .ref se, .ref sm, .ref fc])), (cu, .inr (1, [.int ln, .int bs, .int tk, .int lw, .int li, .ref fa, .ref lu])), (lu, .inl (cL, nl, .inl fl)), (fa, .inl (cF, nf, .inr (.inl ff))), (fc, .inl (cG, 16, .inl fg))] sz) := by
  refine Met.ofW (cc := cX9_at) (maxL := 4) (ret := (some .int)) pn_X9 rfl ?_
  intro p e s m args below meth c s₁ B hml hv
  obtain ⟨rfl, hsz, hP, hK, hD0, hN⟩ := hv
  have hx := B.exec
  have hb := B.bytes
  have hr := B.returns
  have hts := atoms_spec (ws := uX9_at) B.pre
  have hown : s.vm.findClass RX9 = some m.cls := hown_of B.named rfl
  have hlocks := B.notSynchronized
  subst hsz
  have hD := hD0.self (sz := s.heap.size)
  generalize hAe : va_A [(h0, .inr (7, [.ref tp, .ref sc, .ref rd, .ref cu, .ref im, .ref ig, .ref sl, .ref se, .ref sm, .ref fc])), (cu, .inr (1, [.int ln, .int bs, .int tk, .int lw, .int li, .ref fa, .ref lu])), (lu, .inl (cL, nl, .inl fl)), (fa, .inl (cF, nf, .inr (.inl ff))), (fc, .inl (cG, 16, .inl fg))] s.heap.size = A at hD ⊢
  have hA : ∀ q : Nat, s.heap.size ≤ q → A q := fun q h => by rw [← hAe]; exact Or.inr h
  have hS : va_S A s.heap s.heap [] := va_S.rf
  have hP : va_P (dC, dI) vwCl [(h0, .inr (7, [.ref tp, .ref sc, .ref rd, .ref cu, .ref im, .ref ig, .ref sl, .ref se, .ref sm, .ref fc])), (cu, .inr (1, [.int ln, .int bs, .int tk, .int lw, .int li, .ref fa, .ref lu])), (lu, .inl (cL, nl, .inl fl)), (fa, .inl (cF, nf, .inr (.inl ff))), (fc, .inl (cG, 16, .inl fg))] s.heap := hP
  have hl := lv_entry ([.ref h0, .int a1, .int a2, .int a3]) (n := 4) (Nat.le_of_ble_eq_true rfl)
  rw [lg_entry_eq]
  generalize (lg_sl ([.ref h0, .int a1, .int a2, .int a3]) ++ List.replicate (4 - (lg_sl ([.ref h0, .int a1, .int a2, .int a3])).length) Slot.unset).toArray = ls at hl ⊢
  have hl : lv_has ls 4 [(0, .ref h0), (1, .int a1), (2, .int a2), (3, .int a3)] := hl
  refine lv_aload_n hx hb dX9_at_0 rfl (lv_at hl 0 rfl) ?_
  refine va_get (D := (dC, dI)) (ci := 7) (v := .ref cu) (C := RX9) (T := TX9) (N := 10) hx hb hts iX9_at_X9 hown hK hP 0 rfl rfl 3 (by decide) (hts (.fieldLink RX9 35 "LuckyTicket" "current" "LLuckyTicket$Roll;") (List.mem_of_getElem? (i := 1) rfl)) (fun _ h9 => h9) rfl dX9_at_1 ?_
  refine lv_iload_n hx hb dX9_at_4 rfl (lv_at hl 1 rfl) ?_
  refine vp_callSi (W.runV (As := [.int a1]) (rest := []) ⟨hx, hb, hml, hown, hts⟩ (kX2_hasLaw l dC dI cu ln bs tk lw li fa lu a1 b_ln b_bs b_tk b_lw) (cwV 1 hts gX9_at__X2_hasLaw_V149 rfl rfl rfl hd_yX2_hasLaw ⟨lel 1 3 rfl, lel 21 66 rfl⟩) ⟨pw_fb, rcv_X2 hK hP (q0 := 1) rfl, (pw_use hP hK hN [1] rfl [] rfl)⟩ rfl rfl hl.1 rfl (lv_room (Nat.le_of_ble_eq_true rfl)) dX9_at_5 ⟨lel 0 0 rfl, lel 0 0 rfl⟩) (fun r_14 h_r_14 => ?_)
  obtain ⟨b_r_14, nz_r_14⟩ := h_r_14
  have b_r_14 : (0 : Int) ≤ r_14.toInt ∧ r_14.toInt ≤ 1 := b_r_14
  refine lv_if_eq (tgt := 34) hx hb dX9_at_8 (by decide) (fun c_15 => ?_) (fun c_15 => ?_)
  ·
    have n_c_15 : (r_14.toInt : Int) = 0 := c_eq rfl (by decide) c_15
    have b_r_14 : (0 : Int) ≤ r_14.toInt ∧ r_14.toInt ≤ 0 := r_eq1 b_r_14 (by decide : (0 : Int) ≤ (0 : Int32).toInt ∧ (0 : Int32).toInt ≤ 0) n_c_15 (by decide)
    refine lv_bipush (v := (-2)) hx hb dX9_at_34 (by decide) ?_
    have hP9 := hP.sub (ws' := [(h0, .inr (7, [.ref tp, .ref sc, .ref rd, .ref cu, .ref im, .ref ig, .ref sl, .ref se, .ref sm, .ref fc])), (cu, .inr (1, [.int ln, .int bs, .int tk, .int lw, .int li, .ref fa, .ref lu])), (lu, .inl (cL, nl, .inl fl)), (fa, .inl (cF, nf, .inr (.inl ff))), (fc, .inl (cG, 16, .inl fg))]) [0, 1, 2, 3, 4] rfl
    have hD9 := hD.sub (ws' := [(h0, .inr (7, [.ref tp, .ref sc, .ref rd, .ref cu, .ref im, .ref ig, .ref sl, .ref se, .ref sm, .ref fc])), (cu, .inr (1, [.int ln, .int bs, .int tk, .int lw, .int li, .ref fa, .ref lu])), (lu, .inl (cL, nl, .inl fl)), (fa, .inl (cF, nf, .inr (.inl ff))), (fc, .inl (cG, 16, .inl fg))]) [0, 1, 2, 3, 4] (by decide) rfl
    have hK9 := hK.sub (tys' := [(cL, .int), (cF, .long), (cG, .int)]) [0, 1, 2] rfl
    exact W.iret (v := (-2)) hx hb hr (fun t ht hW => ⟨⟨(-2), (), rfl, trivial, fg, by rw [ht]; exact hP9, va_K.moved hW.alike hK9, hD9⟩, hS.F ht⟩) hS.2.2 dX9_at_36
  ·
    have n_c_15 : (r_14.toInt : Int) ≠ 0 := c_ne rfl (by decide) c_15
    have b_r_14 : (1 : Int) ≤ r_14.toInt ∧ r_14.toInt ≤ 1 := r_ne1 b_r_14 (by decide : (0 : Int) ≤ (0 : Int32).toInt ∧ (0 : Int32).toInt ≤ 0) n_c_15 (by decide)
    obtain ⟨b_a1, g_16⟩ := nz_r_14 c_15
    refine lv_aload_n hx hb dX9_at_11 rfl (lv_at hl 0 rfl) ?_
    refine va_get (D := (dC, dI)) (ci := 7) (v := .ref cu) (C := RX9) (T := TX9) (N := 10) hx hb hts iX9_at_X9 hown hK hP 0 rfl rfl 3 (by decide) (hts (.fieldLink RX9 35 "LuckyTicket" "current" "LLuckyTicket$Roll;") (List.mem_of_getElem? (i := 1) rfl)) (fun _ h9 => h9) rfl dX9_at_12 ?_
    refine lv_iload_n hx hb dX9_at_15 rfl (lv_at hl 2 rfl) ?_
    refine vp_callSi (W.runV (As := [.int a2]) (rest := []) ⟨hx, hb, hml, hown, hts⟩ (kX2_hasPlace l dC dI cu ln bs tk lw li fa lu a2 b_ln b_bs b_tk b_lw) (cwV 1 hts gX9_at__X2_hasPlace_V103 rfl rfl rfl hd_yX2_hasPlace ⟨lel 1 3 rfl, lel 21 66 rfl⟩) ⟨pw_fb, rcv_X2 hK hP (q0 := 1) rfl, (pw_use hP hK hN [1] rfl [] rfl)⟩ rfl rfl hl.1 rfl (lv_room (Nat.le_of_ble_eq_true rfl)) dX9_at_16 ⟨lel 0 0 rfl, lel 0 0 rfl⟩) (fun r_17 h_r_17 => ?_)
    obtain ⟨b_r_17, nz_r_17⟩ := h_r_17
    have b_r_17 : (0 : Int) ≤ r_17.toInt ∧ r_17.toInt ≤ 1 := b_r_17
    refine lv_if_eq (tgt := 34) hx hb dX9_at_19 (by decide) (fun c_18 => ?_) (fun c_18 => ?_)
    ·
      have n_c_18 : (r_17.toInt : Int) = 0 := c_eq rfl (by decide) c_18
      have b_r_17 : (0 : Int) ≤ r_17.toInt ∧ r_17.toInt ≤ 0 := r_eq1 b_r_17 (by decide : (0 : Int) ≤ (0 : Int32).toInt ∧ (0 : Int32).toInt ≤ 0) n_c_18 (by decide)
      refine lv_bipush (v := (-2)) hx hb dX9_at_34 (by decide) ?_
      have hP9 := hP.sub (ws' := [(h0, .inr (7, [.ref tp, .ref sc, .ref rd, .ref cu, .ref im, .ref ig, .ref sl, .ref se, .ref sm, .ref fc])), (cu, .inr (1, [.int ln, .int bs, .int tk, .int lw, .int li, .ref fa, .ref lu])), (lu, .inl (cL, nl, .inl fl)), (fa, .inl (cF, nf, .inr (.inl ff))), (fc, .inl (cG, 16, .inl fg))]) [0, 1, 2, 3, 4] rfl
      have hD9 := hD.sub (ws' := [(h0, .inr (7, [.ref tp, .ref sc, .ref rd, .ref cu, .ref im, .ref ig, .ref sl, .ref se, .ref sm, .ref fc])), (cu, .inr (1, [.int ln, .int bs, .int tk, .int lw, .int li, .ref fa, .ref lu])), (lu, .inl (cL, nl, .inl fl)), (fa, .inl (cF, nf, .inr (.inl ff))), (fc, .inl (cG, 16, .inl fg))]) [0, 1, 2, 3, 4] (by decide) rfl
      have hK9 := hK.sub (tys' := [(cL, .int), (cF, .long), (cG, .int)]) [0, 1, 2] rfl
      exact W.iret (v := (-2)) hx hb hr (fun t ht hW => ⟨⟨(-2), (), rfl, trivial, fg, by rw [ht]; exact hP9, va_K.moved hW.alike hK9, hD9⟩, hS.F ht⟩) hS.2.2 dX9_at_36
    ·
      have n_c_18 : (r_17.toInt : Int) ≠ 0 := c_ne rfl (by decide) c_18
      have b_r_17 : (1 : Int) ≤ r_17.toInt ∧ r_17.toInt ≤ 1 := r_ne1 b_r_17 (by decide : (0 : Int) ≤ (0 : Int32).toInt ∧ (0 : Int32).toInt ≤ 0) n_c_18 (by decide)
      obtain ⟨b_a2, g_19⟩ := nz_r_17 c_18
      refine lv_aload_n hx hb dX9_at_22 rfl (lv_at hl 0 rfl) ?_
      refine va_get (D := (dC, dI)) (ci := 7) (v := .ref cu) (C := RX9) (T := TX9) (N := 10) hx hb hts iX9_at_X9 hown hK hP 0 rfl rfl 3 (by decide) (hts (.fieldLink RX9 35 "LuckyTicket" "current" "LLuckyTicket$Roll;") (List.mem_of_getElem? (i := 1) rfl)) (fun _ h9 => h9) rfl dX9_at_23 ?_
      refine lv_iload_n hx hb dX9_at_26 rfl (lv_at hl 3 rfl) ?_
      obtain ⟨z_20, e_z_20⟩ : ∃ y : Int64, y = a3.toInt64 := ⟨_, rfl⟩
      refine lv_i2l (v := z_20) hx hb dX9_at_27 e_z_20.symm ?_
      obtain ⟨q_z_20, b_z_20⟩ := ti_i2l e_z_20 (ti_rng a3)
      refine vp_callSi (W.runV (As := [.long z_20]) (rest := []) ⟨hx, hb, hml, hown, hts⟩ (kX2_hasFigure l dC dI cu ln bs tk lw li fa lu z_20 b_ln b_bs b_tk b_lw) (cwV 1 hts gX9_at__X2_hasFigure_V236 rfl rfl rfl hd_yX2_hasFigure ⟨lel 1 3 rfl, lel 22 66 rfl⟩) ⟨pw_fb, rcv_X2 hK hP (q0 := 1) rfl, (pw_use hP hK hN [1] rfl [] rfl)⟩ rfl rfl hl.1 rfl (lv_room (Nat.le_of_ble_eq_true rfl)) dX9_at_28 ⟨lel 0 0 rfl, lel 0 0 rfl⟩) (fun r_21 h_r_21 => ?_)
      have b_r_21 := h_r_21
      have b_r_21 : (0 : Int) ≤ r_21.toInt ∧ r_21.toInt ≤ 1 := b_r_21
      refine lv_if_ne (tgt := 37) hx hb dX9_at_31 (by decide) (fun c_22 => ?_) (fun c_22 => ?_)
      ·
        have n_c_22 : (r_21.toInt : Int) ≠ 0 := c_ne rfl (by decide) c_22
        have b_r_21 : (1 : Int) ≤ r_21.toInt ∧ r_21.toInt ≤ 1 := r_ne1 b_r_21 (by decide : (0 : Int) ≤ (0 : Int32).toInt ∧ (0 : Int32).toInt ≤ 0) n_c_22 (by decide)
        refine lv_aload_n hx hb dX9_at_37 rfl (lv_at hl 0 rfl) ?_
        refine lv_iload_n hx hb dX9_at_38 rfl (lv_at hl 1 rfl) ?_
        refine lv_iload_n hx hb dX9_at_39 rfl (lv_at hl 2 rfl) ?_
        have hFc := va_free (wc := [(h0, .inr (7, [.ref tp, .ref sc, .ref rd, .ref cu, .ref im, .ref ig, .ref sl, .ref se, .ref sm, .ref fc])), (cu, .inr (1, [.int ln, .int bs, .int tk, .int lw, .int li, .ref fa, .ref lu])), (lu, .inl (cL, nl, .inl fl)), (fa, .inl (cF, nf, .inr (.inl ff))), (fc, .inl (cG, 16, .inl fg))]) hD hS hA [0, 1, 2, 3, 4] rfl
        refine va_callv (va_runV (As := [.int a1, .int a2]) (rest := []) ⟨hx, hb, hml, hown, hts⟩ (kX9_countFigures l dC dI h0 tp sc rd cu im ig sl se sm fc ln bs tk lw li fa lu cL nl fl cF nf ff cG fg a1 a2 (s.heap.size) b_ln b_bs b_tk b_lw (by omega) (by omega)) (cwV 2 hts gX9_at__X9_countFigures_V279 rfl rfl rfl hd_yX9_countFigures ⟨lel 3 3 rfl, lel 66 66 rfl⟩) ⟨hw_fb, rcv_X9 hK hP (q0 := 0) rfl, (hw_use hP hD hK hN [0, 1, 2, 3, 4] rfl (by decide) rfl [0, 1, 2] rfl)⟩ rfl rfl hl.1 rfl (lv_room (Nat.le_of_ble_eq_true rfl)) dX9_at_40 ⟨lel 0 0 rfl, lel 0 0 rfl⟩) hS (fun q _ h => hFc q h) hFc (fun u_24 t H1 locs ht hvm hw_r_23 hB hz1 hk1 hS => ?_)
        obtain ⟨o0_25, hP1, hK1, hD1⟩ := hB
        rw [ht] at hP1
        have hK1 := va_K.moved hvm.symm hK1
        obtain ⟨hP, hD⟩ := va_join (wr := []) (w1 := [(h0, .inr (7, [.ref tp, .ref sc, .ref rd, .ref cu, .ref im, .ref ig, .ref sl, .ref se, .ref sm, .ref fc])), (cu, .inr (1, [.int ln, .int bs, .int tk, .int lw, .int li, .ref fa, .ref lu])), (lu, .inl (cL, nl, .inl fl)), (fa, .inl (cF, nf, .inr (.inl ff))), (fc, .inl (cG, 16, .inl o0_25))]) hP hD [0, 1, 2, 3, 4] [] rfl rfl (by decide) (by decide) hk1 hFc hP1 hD1
        have hK := (hK.sub (tys' := []) [] rfl).app hK1
        generalize H1 = H at hP hS ⊢
        have hP : va_P (dC, dI) vwCl [(h0, .inr (7, [.ref tp, .ref sc, .ref rd, .ref cu, .ref im, .ref ig, .ref sl, .ref se, .ref sm, .ref fc])), (cu, .inr (1, [.int ln, .int bs, .int tk, .int lw, .int li, .ref fa, .ref lu])), (lu, .inl (cL, nl, .inl fl)), (fa, .inl (cF, nf, .inr (.inl ff))), (fc, .inl (cG, 16, .inl o0_25))] H := hP
        have hD : va_D A [(h0, .inr (7, [.ref tp, .ref sc, .ref rd, .ref cu, .ref im, .ref ig, .ref sl, .ref se, .ref sm, .ref fc])), (cu, .inr (1, [.int ln, .int bs, .int tk, .int lw, .int li, .ref fa, .ref lu])), (lu, .inl (cL, nl, .inl fl)), (fa, .inl (cF, nf, .inr (.inl ff))), (fc, .inl (cG, 16, .inl o0_25))] := hD
        have hK : va_K (dC, dI) vwCl [(cL, .int), (cF, .long), (cG, .int)] s := hK
        refine lv_aload_n hx hb dX9_at_43 rfl (lv_at hl 0 rfl) ?_
        refine lv_iload_n hx hb dX9_at_44 rfl (lv_at hl 3 rfl) ?_
        refine vp_callSi (W.runV (As := [.int a3]) (rest := []) ⟨hx, hb, hml, hown, hts⟩ (kX9_countedFigure l dC dI h0 tp sc rd cu im ig sl se sm fc cG o0_25 a3 ) (cwV 1 hts gX9_at__X9_countedFigure_V283 rfl rfl rfl hd_yX9_countedFigure ⟨lel 2 3 rfl, lel 43 66 rfl⟩) ⟨pw_fb, rcv_X9 hK hP (q0 := 0) rfl, (pw_use hP hK hN [0, 4] rfl [2] rfl)⟩ rfl rfl hl.1 rfl (lv_room (Nat.le_of_ble_eq_true rfl)) dX9_at_45 ⟨lel 0 0 rfl, lel 0 0 rfl⟩) (fun r_26 h_r_26 => ?_)
        have hP9 := hP.sub (ws' := [(h0, .inr (7, [.ref tp, .ref sc, .ref rd, .ref cu, .ref im, .ref ig, .ref sl, .ref se, .ref sm, .ref fc])), (cu, .inr (1, [.int ln, .int bs, .int tk, .int lw, .int li, .ref fa, .ref lu])), (lu, .inl (cL, nl, .inl fl)), (fa, .inl (cF, nf, .inr (.inl ff))), (fc, .inl (cG, 16, .inl o0_25))]) [0, 1, 2, 3, 4] rfl
        have hD9 := hD.sub (ws' := [(h0, .inr (7, [.ref tp, .ref sc, .ref rd, .ref cu, .ref im, .ref ig, .ref sl, .ref se, .ref sm, .ref fc])), (cu, .inr (1, [.int ln, .int bs, .int tk, .int lw, .int li, .ref fa, .ref lu])), (lu, .inl (cL, nl, .inl fl)), (fa, .inl (cF, nf, .inr (.inl ff))), (fc, .inl (cG, 16, .inl o0_25))]) [0, 1, 2, 3, 4] (by decide) rfl
        have hK9 := hK.sub (tys' := [(cL, .int), (cF, .long), (cG, .int)]) [0, 1, 2] rfl
        exact W.iret (v := r_26) hx hb hr (fun t ht hW => ⟨⟨r_26, (), rfl, trivial, o0_25, by rw [ht]; exact hP9, va_K.moved hW.alike hK9, hD9⟩, hS.F ht⟩) hS.2.2 dX9_at_48
      ·
        have n_c_22 : (r_21.toInt : Int) = 0 := c_eq rfl (by decide) c_22
        have b_r_21 : (0 : Int) ≤ r_21.toInt ∧ r_21.toInt ≤ 0 := r_eq1 b_r_21 (by decide : (0 : Int) ≤ (0 : Int32).toInt ∧ (0 : Int32).toInt ≤ 0) n_c_22 (by decide)
        refine lv_bipush (v := (-2)) hx hb dX9_at_34 (by decide) ?_
        have hP9 := hP.sub (ws' := [(h0, .inr (7, [.ref tp, .ref sc, .ref rd, .ref cu, .ref im, .ref ig, .ref sl, .ref se, .ref sm, .ref fc])), (cu, .inr (1, [.int ln, .int bs, .int tk, .int lw, .int li, .ref fa, .ref lu])), (lu, .inl (cL, nl, .inl fl)), (fa, .inl (cF, nf, .inr (.inl ff))), (fc, .inl (cG, 16, .inl fg))]) [0, 1, 2, 3, 4] rfl
        have hD9 := hD.sub (ws' := [(h0, .inr (7, [.ref tp, .ref sc, .ref rd, .ref cu, .ref im, .ref ig, .ref sl, .ref se, .ref sm, .ref fc])), (cu, .inr (1, [.int ln, .int bs, .int tk, .int lw, .int li, .ref fa, .ref lu])), (lu, .inl (cL, nl, .inl fl)), (fa, .inl (cF, nf, .inr (.inl ff))), (fc, .inl (cG, 16, .inl fg))]) [0, 1, 2, 3, 4] (by decide) rfl
        have hK9 := hK.sub (tys' := [(cL, .int), (cF, .long), (cG, .int)]) [0, 1, 2] rfl
        exact W.iret (v := (-2)) hx hb hr (fun t ht hW => ⟨⟨(-2), (), rfl, trivial, fg, by rw [ht]; exact hP9, va_K.moved hW.alike hK9, hD9⟩, hS.F ht⟩) hS.2.2 dX9_at_36
theorem dX9_mostly_0 : decode cX9_mostly 0 = .ok (.aload_n 0, 1) := by decide +kernel
theorem dX9_mostly_1 : decode cX9_mostly 1 = .ok (.getfield 35, 3) := by decide +kernel
theorem dX9_mostly_4 : decode cX9_mostly 4 = .ok (.iload_n 1, 1) := by decide +kernel
theorem dX9_mostly_5 : decode cX9_mostly 5 = .ok (.invokevirtual 149, 3) := by decide +kernel
theorem dX9_mostly_8 : decode cX9_mostly 8 = .ok (.ifCond .eq 14, 3) := by decide +kernel
theorem dX9_mostly_11 : decode cX9_mostly 11 = .ok (.aload_n 0, 1) := by decide +kernel
theorem dX9_mostly_12 : decode cX9_mostly 12 = .ok (.getfield 35, 3) := by decide +kernel
theorem dX9_mostly_15 : decode cX9_mostly 15 = .ok (.iload_n 2, 1) := by decide +kernel
theorem dX9_mostly_16 : decode cX9_mostly 16 = .ok (.invokevirtual 103, 3) := by decide +kernel
theorem dX9_mostly_19 : decode cX9_mostly 19 = .ok (.ifCond .ne 6, 3) := by decide +kernel
theorem dX9_mostly_22 : decode cX9_mostly 22 = .ok (.bipush (-2), 2) := by decide +kernel
theorem dX9_mostly_24 : decode cX9_mostly 24 = .ok (.ireturn, 1) := by decide +kernel
theorem dX9_mostly_25 : decode cX9_mostly 25 = .ok (.aload_n 0, 1) := by decide +kernel
theorem dX9_mostly_26 : decode cX9_mostly 26 = .ok (.iload_n 1, 1) := by decide +kernel
theorem dX9_mostly_27 : decode cX9_mostly 27 = .ok (.iload_n 2, 1) := by decide +kernel
theorem dX9_mostly_28 : decode cX9_mostly 28 = .ok (.invokevirtual 279, 3) := by decide +kernel
theorem dX9_mostly_31 : decode cX9_mostly 31 = .ok (.iconst 0, 1) := by decide +kernel
theorem dX9_mostly_32 : decode cX9_mostly 32 = .ok (.istore_n 3, 1) := by decide +kernel
theorem dX9_mostly_33 : decode cX9_mostly 33 = .ok (.iconst (-1), 1) := by decide +kernel
theorem dX9_mostly_34 : decode cX9_mostly 34 = .ok (.istore 4, 2) := by decide +kernel
theorem dX9_mostly_36 : decode cX9_mostly 36 = .ok (.iconst 0, 1) := by decide +kernel
theorem dX9_mostly_37 : decode cX9_mostly 37 = .ok (.istore 5, 2) := by decide +kernel
theorem dX9_mostly_39 : decode cX9_mostly 39 = .ok (.iload 5, 2) := by decide +kernel
theorem dX9_mostly_41 : decode cX9_mostly 41 = .ok (.aload_n 0, 1) := by decide +kernel
theorem dX9_mostly_42 : decode cX9_mostly 42 = .ok (.getfield 35, 3) := by decide +kernel
theorem dX9_mostly_45 : decode cX9_mostly 45 = .ok (.getfield 220, 3) := by decide +kernel
theorem dX9_mostly_48 : decode cX9_mostly 48 = .ok (.if_icmp .ge 30, 3) := by decide +kernel
theorem dX9_mostly_51 : decode cX9_mostly 51 = .ok (.aload_n 0, 1) := by decide +kernel
theorem dX9_mostly_52 : decode cX9_mostly 52 = .ok (.iload 5, 2) := by decide +kernel
theorem dX9_mostly_54 : decode cX9_mostly 54 = .ok (.invokevirtual 283, 3) := by decide +kernel
theorem dX9_mostly_57 : decode cX9_mostly 57 = .ok (.iload_n 3, 1) := by decide +kernel
theorem dX9_mostly_58 : decode cX9_mostly 58 = .ok (.if_icmp .le 14, 3) := by decide +kernel
theorem dX9_mostly_61 : decode cX9_mostly 61 = .ok (.aload_n 0, 1) := by decide +kernel
theorem dX9_mostly_62 : decode cX9_mostly 62 = .ok (.iload 5, 2) := by decide +kernel
theorem dX9_mostly_64 : decode cX9_mostly 64 = .ok (.invokevirtual 283, 3) := by decide +kernel
theorem dX9_mostly_67 : decode cX9_mostly 67 = .ok (.istore_n 3, 1) := by decide +kernel
theorem dX9_mostly_68 : decode cX9_mostly 68 = .ok (.iload 5, 2) := by decide +kernel
theorem dX9_mostly_70 : decode cX9_mostly 70 = .ok (.istore 4, 2) := by decide +kernel
theorem dX9_mostly_72 : decode cX9_mostly 72 = .ok (.iinc 5 1, 3) := by decide +kernel
theorem dX9_mostly_75 : decode cX9_mostly 75 = .ok (.goto (-36), 3) := by decide +kernel
theorem dX9_mostly_78 : decode cX9_mostly 78 = .ok (.iload 4, 2) := by decide +kernel
theorem dX9_mostly_80 : decode cX9_mostly 80 = .ok (.ireturn, 1) := by decide +kernel
theorem hd_yX9_mostly : yX9_mostly.cls = RX9 ∧ yX9_mostly.cls ≠ "java/lang/invoke/MethodHandle" ∧ yX9_mostly.cls ≠ "java/lang/invoke/VarHandle" ∧ (parseMethodDescriptor yX9_mostly.desc).map (fun d => d.parameters.length) = some 2 := by decide +kernel
def uX9_mostly : List Cond := List.cons (.code yX9_mostly cX9_mostly 6 (some .int)) (HAppend.hAppend ([.fieldLink RX9 35 "LuckyTicket" "current" "LLuckyTicket$Roll;", .methodLink RX9 149 yX2_hasLaw, .instanceMethod yX2_hasLaw, .selects RX2 yX2_hasLaw yX2_hasLaw, .initialized RX2, .methodLink RX9 103 yX2_hasPlace, .instanceMethod yX2_hasPlace, .selects RX2 yX2_hasPlace yX2_hasPlace, .methodLink RX9 279 yX9_countFigures, .instanceMethod yX9_countFigures, .selects RX9 yX9_countFigures yX9_countFigures, .initialized RX9, .methodLink RX9 283 yX9_countedFigure, .instanceMethod yX9_countedFigure, .selects RX9 yX9_countedFigure yX9_countedFigure] : List Cond) (HAppend.hAppend uX2_hasLaw (HAppend.hAppend uX2_hasPlace (HAppend.hAppend uX9_countFigures (HAppend.hAppend uX9_countedFigure (HAppend.hAppend wsX90 wsX20))))))
theorem iX9_mostly_X9 : ∀ w ∈ wsX90, w ∈ uX9_mostly := fun _ h => (List.mem_cons_of_mem _ (List.mem_append_right _ (List.mem_append_right _ (List.mem_append_right _ (List.mem_append_right _ (List.mem_append_right _ (List.mem_append_left _ h)))))))
theorem iX9_mostly_X2 : ∀ w ∈ wsX20, w ∈ uX9_mostly := fun _ h => (List.mem_cons_of_mem _ (List.mem_append_right _ (List.mem_append_right _ (List.mem_append_right _ (List.mem_append_right _ (List.mem_append_right _ (List.mem_append_right _ h)))))))
theorem guX9_mostly : GU uX9_mostly := gu_cons (gu_app (by decide +kernel) (gu_ap guX2_hasLaw (gu_ap guX2_hasPlace (gu_ap guX9_countFigures (gu_ap guX9_countedFigure (gu_ap gws_X9 gws_X2))))))
theorem gX9_mostly__X2_hasLaw_V149 : GoodIn uX9_mostly (wsV RX9 149 RX2 yX2_hasLaw uX2_hasLaw) := gin_V (List.mem_of_getElem? (i := 2) rfl) (List.mem_of_getElem? (i := 3) rfl) (List.mem_of_getElem? (i := 4) rfl) (List.mem_of_getElem? (i := 5) rfl) (fun _ h => (List.mem_cons_of_mem _ (List.mem_append_right _ (List.mem_append_left _ h)))) guX2_hasLaw
theorem gX9_mostly__X2_hasPlace_V103 : GoodIn uX9_mostly (wsV RX9 103 RX2 yX2_hasPlace uX2_hasPlace) := gin_V (List.mem_of_getElem? (i := 6) rfl) (List.mem_of_getElem? (i := 7) rfl) (List.mem_of_getElem? (i := 8) rfl) (List.mem_of_getElem? (i := 5) rfl) (fun _ h => (List.mem_cons_of_mem _ (List.mem_append_right _ (List.mem_append_right _ (List.mem_append_left _ h))))) guX2_hasPlace
theorem gX9_mostly__X9_countFigures_V279 : GoodIn uX9_mostly (wsV RX9 279 RX9 yX9_countFigures uX9_countFigures) := gin_V (List.mem_of_getElem? (i := 9) rfl) (List.mem_of_getElem? (i := 10) rfl) (List.mem_of_getElem? (i := 11) rfl) (List.mem_of_getElem? (i := 12) rfl) (fun _ h => (List.mem_cons_of_mem _ (List.mem_append_right _ (List.mem_append_right _ (List.mem_append_right _ (List.mem_append_left _ h)))))) guX9_countFigures
theorem gX9_mostly__X9_countedFigure_V283 : GoodIn uX9_mostly (wsV RX9 283 RX9 yX9_countedFigure uX9_countedFigure) := gin_V (List.mem_of_getElem? (i := 13) rfl) (List.mem_of_getElem? (i := 14) rfl) (List.mem_of_getElem? (i := 15) rfl) (List.mem_of_getElem? (i := 12) rfl) (fun _ h => (List.mem_cons_of_mem _ (List.mem_append_right _ (List.mem_append_right _ (List.mem_append_right _ (List.mem_append_right _ (List.mem_append_left _ h))))))) guX9_countedFigure
set_option maxHeartbeats 4000000 in
set_option maxRecDepth 100000 in
theorem kX9_mostly (l : Launch) (dC : Nat → ClassId) (dI : Nat → Nat → Nat) (h0 : Nat) (tp : Nat) (sc : Nat) (rd : Nat) (cu : Nat) (im : Nat) (ig : Nat) (sl : Nat) (se : Nat) (sm : Nat) (fc : Nat) (ln : Int32) (bs : Int32) (tk : Int32) (lw : Int32) (li : Int32) (fa : Nat) (lu : Nat) (cL : ClassId) (nl : Nat) (fl : Nat → Int32) (cF : ClassId) (nf : Nat) (ff : Nat → Int64) (cG : ClassId) (fg : Nat → Int32) (a1 : Int32) (a2 : Int32) (sz : Nat) (b_ln : (0 : Int) ≤ ln.toInt ∧ ln.toInt ≤ 12) (b_bs : (0 : Int) ≤ bs.toInt ∧ bs.toInt ≤ 16) (b_tk : (0 : Int) ≤ tk.toInt ∧ tk.toInt ≤ 20000) (b_lw : (0 : Int) ≤ lw.toInt ∧ lw.toInt ≤ 9) (hl1 : tk.toInt ≤ (nl : Int)) (hf1 : tk.toInt ≤ (nf : Int)) : Met l yX9_mostly uX9_mostly ({ frames := 3, cells := 0, slots := 0, locals := 66 }) (va_Pc [.ref h0, .int a1, .int a2] (hw (dC, dI) vwCl [(h0, .inr (7, [.ref tp, .ref sc, .ref rd, .ref cu, .ref im, .ref ig, .ref sl, .ref se, .ref sm, .ref fc])), (cu, .inr (1, [.int ln, .int bs, .int tk, .int lw, .int li, .ref fa, .ref lu])), (lu, .inl (cL, nl, .inl fl)), (fa, .inl (cF, nf, .inr (.inl ff))), (fc, .inl (cG, 16, .inl fg))] [(cL, .int), (cF, .long), (cG, .int)] sz)) (va_Qi (fun (r : Int32) (_ : Unit) => ((-2 : Int) ≤ r.toInt ∧ r.toInt ≤ 16)) (fun (_ : Unit) t => ∃ (o0_ : Nat → Int32), va_P (dC, dI) vwCl [(h0, .inr (7, [.ref tp, .ref sc, .ref rd, .ref cu, .ref im, .ref ig, .ref sl, .ref se, .ref sm, .ref fc])), (cu, .inr (1, [.int ln, .int bs, .int tk, .int lw, .int li, .ref fa, .ref lu])), (lu, .inl (cL, nl, .inl fl)), (fa, .inl (cF, nf, .inr (.inl ff))), (fc, .inl (cG, 16, .inl o0_))] t.heap ∧ va_K (dC, dI) vwCl [(cL, .int), (cF, .long), (cG, .int)] t ∧ va_D (va_A [(h0, .inr (7, [.ref tp, .ref sc, .ref rd, .ref cu, .ref im, .ref ig, .ref sl, .ref se, .ref sm, .ref fc])), (cu, .inr (1, [.int ln, .int bs, .int tk, .int lw, .int li, .ref fa, .ref lu])), (lu, .inl (cL, nl, .inl fl)), (fa, .inl (cF, nf, .inr (.inl ff))), (fc, .inl (cG, 16, .inl fg))] sz) [(h0, .inr (7, [.ref tp, .ref sc, .ref rd, .ref cu, .ref im, .ref ig, .ref sl, .ref se, .ref sm, .ref fc])), (cu, .inr (1, [.int ln, .int bs, .int tk, .int lw, .int li, .ref fa, .ref lu])), (lu, .inl (cL, nl, .inl fl)), (fa, .inl (cF, nf, .inr (.inl ff))), (fc, .inl (cG, 16, .inl o0_))]) (va_A [(h0, .inr (7, [.ref tp, .ref sc, .ref rd, .ref cu, .ref im, .ref ig, .ref sl, .ref se, .ref sm, .ref fc])), (cu, .inr (1, [.int ln, .int bs, .int tk, .int lw, .int li, .ref fa, .ref lu])), (lu, .inl (cL, nl, .inl fl)), (fa, .inl (cF, nf, .inr (.inl ff))), (fc, .inl (cG, 16, .inl fg))] sz)) 0 0 (va_A [(h0, .inr (7, [.ref tp, .ref sc, .ref rd, .ref cu, .ref im, .ref ig, .ref sl, .ref se, .ref sm, .ref fc])), (cu, .inr (1, [.int ln, .int bs, .int tk, .int lw, .int li, .ref fa, .ref lu])), (lu, .inl (cL, nl, .inl fl)), (fa, .inl (cF, nf, .inr (.inl ff))), (fc, .inl (cG, 16, .inl fg))] sz) := by
  refine Met.ofW (cc := cX9_mostly) (maxL := 6) (ret := (some .int)) pn_X9 rfl ?_
  intro p e s m args below meth c s₁ B hml hv
  obtain ⟨rfl, hsz, hP, hK, hD0, hN⟩ := hv
  have hx := B.exec
  have hb := B.bytes
  have hr := B.returns
  have hts := atoms_spec (ws := uX9_mostly) B.pre
  have hown : s.vm.findClass RX9 = some m.cls := hown_of B.named rfl
  have hlocks := B.notSynchronized
  subst hsz
  have hD := hD0.self (sz := s.heap.size)
  generalize hAe : va_A [(h0, .inr (7, [.ref tp, .ref sc, .ref rd, .ref cu, .ref im, .ref ig, .ref sl, .ref se, .ref sm, .ref fc])), (cu, .inr (1, [.int ln, .int bs, .int tk, .int lw, .int li, .ref fa, .ref lu])), (lu, .inl (cL, nl, .inl fl)), (fa, .inl (cF, nf, .inr (.inl ff))), (fc, .inl (cG, 16, .inl fg))] s.heap.size = A at hD ⊢
  have hA : ∀ q : Nat, s.heap.size ≤ q → A q := fun q h => by rw [← hAe]; exact Or.inr h
  have hS : va_S A s.heap s.heap [] := va_S.rf
  have hP : va_P (dC, dI) vwCl [(h0, .inr (7, [.ref tp, .ref sc, .ref rd, .ref cu, .ref im, .ref ig, .ref sl, .ref se, .ref sm, .ref fc])), (cu, .inr (1, [.int ln, .int bs, .int tk, .int lw, .int li, .ref fa, .ref lu])), (lu, .inl (cL, nl, .inl fl)), (fa, .inl (cF, nf, .inr (.inl ff))), (fc, .inl (cG, 16, .inl fg))] s.heap := hP
  have hl := lv_entry ([.ref h0, .int a1, .int a2]) (n := 6) (Nat.le_of_ble_eq_true rfl)
  rw [lg_entry_eq]
  generalize (lg_sl ([.ref h0, .int a1, .int a2]) ++ List.replicate (6 - (lg_sl ([.ref h0, .int a1, .int a2])).length) Slot.unset).toArray = ls at hl ⊢
  have hl : lv_has ls 6 [(0, .ref h0), (1, .int a1), (2, .int a2)] := hl
  refine lv_aload_n hx hb dX9_mostly_0 rfl (lv_at hl 0 rfl) ?_
  refine va_get (D := (dC, dI)) (ci := 7) (v := .ref cu) (C := RX9) (T := TX9) (N := 10) hx hb hts iX9_mostly_X9 hown hK hP 0 rfl rfl 3 (by decide) (hts (.fieldLink RX9 35 "LuckyTicket" "current" "LLuckyTicket$Roll;") (List.mem_of_getElem? (i := 1) rfl)) (fun _ h9 => h9) rfl dX9_mostly_1 ?_
  refine lv_iload_n hx hb dX9_mostly_4 rfl (lv_at hl 1 rfl) ?_
  refine vp_callSi (W.runV (As := [.int a1]) (rest := []) ⟨hx, hb, hml, hown, hts⟩ (kX2_hasLaw l dC dI cu ln bs tk lw li fa lu a1 b_ln b_bs b_tk b_lw) (cwV 1 hts gX9_mostly__X2_hasLaw_V149 rfl rfl rfl hd_yX2_hasLaw ⟨lel 1 3 rfl, lel 21 66 rfl⟩) ⟨pw_fb, rcv_X2 hK hP (q0 := 1) rfl, (pw_use hP hK hN [1] rfl [] rfl)⟩ rfl rfl hl.1 rfl (lv_room (Nat.le_of_ble_eq_true rfl)) dX9_mostly_5 ⟨lel 0 0 rfl, lel 0 0 rfl⟩) (fun r_69 h_r_69 => ?_)
  obtain ⟨b_r_69, nz_r_69⟩ := h_r_69
  have b_r_69 : (0 : Int) ≤ r_69.toInt ∧ r_69.toInt ≤ 1 := b_r_69
  refine lv_if_eq (tgt := 22) hx hb dX9_mostly_8 (by decide) (fun c_70 => ?_) (fun c_70 => ?_)
  ·
    have n_c_70 : (r_69.toInt : Int) = 0 := c_eq rfl (by decide) c_70
    have b_r_69 : (0 : Int) ≤ r_69.toInt ∧ r_69.toInt ≤ 0 := r_eq1 b_r_69 (by decide : (0 : Int) ≤ (0 : Int32).toInt ∧ (0 : Int32).toInt ≤ 0) n_c_70 (by decide)
    refine lv_bipush (v := (-2)) hx hb dX9_mostly_22 (by decide) ?_
    have hP9 := hP.sub (ws' := [(h0, .inr (7, [.ref tp, .ref sc, .ref rd, .ref cu, .ref im, .ref ig, .ref sl, .ref se, .ref sm, .ref fc])), (cu, .inr (1, [.int ln, .int bs, .int tk, .int lw, .int li, .ref fa, .ref lu])), (lu, .inl (cL, nl, .inl fl)), (fa, .inl (cF, nf, .inr (.inl ff))), (fc, .inl (cG, 16, .inl fg))]) [0, 1, 2, 3, 4] rfl
    have hD9 := hD.sub (ws' := [(h0, .inr (7, [.ref tp, .ref sc, .ref rd, .ref cu, .ref im, .ref ig, .ref sl, .ref se, .ref sm, .ref fc])), (cu, .inr (1, [.int ln, .int bs, .int tk, .int lw, .int li, .ref fa, .ref lu])), (lu, .inl (cL, nl, .inl fl)), (fa, .inl (cF, nf, .inr (.inl ff))), (fc, .inl (cG, 16, .inl fg))]) [0, 1, 2, 3, 4] (by decide) rfl
    have hK9 := hK.sub (tys' := [(cL, .int), (cF, .long), (cG, .int)]) [0, 1, 2] rfl
    exact W.iret (v := (-2)) hx hb hr (fun t ht hW => ⟨⟨(-2), (), rfl, (rg_w (by decide : (-2 : Int) ≤ ((-2) : Int32).toInt ∧ ((-2) : Int32).toInt ≤ -2) (by decide) (by decide)), fg, by rw [ht]; exact hP9, va_K.moved hW.alike hK9, hD9⟩, hS.F ht⟩) hS.2.2 dX9_mostly_24
  ·
    have n_c_70 : (r_69.toInt : Int) ≠ 0 := c_ne rfl (by decide) c_70
    have b_r_69 : (1 : Int) ≤ r_69.toInt ∧ r_69.toInt ≤ 1 := r_ne1 b_r_69 (by decide : (0 : Int) ≤ (0 : Int32).toInt ∧ (0 : Int32).toInt ≤ 0) n_c_70 (by decide)
    obtain ⟨b_a1, g_71⟩ := nz_r_69 c_70
    refine lv_aload_n hx hb dX9_mostly_11 rfl (lv_at hl 0 rfl) ?_
    refine va_get (D := (dC, dI)) (ci := 7) (v := .ref cu) (C := RX9) (T := TX9) (N := 10) hx hb hts iX9_mostly_X9 hown hK hP 0 rfl rfl 3 (by decide) (hts (.fieldLink RX9 35 "LuckyTicket" "current" "LLuckyTicket$Roll;") (List.mem_of_getElem? (i := 1) rfl)) (fun _ h9 => h9) rfl dX9_mostly_12 ?_
    refine lv_iload_n hx hb dX9_mostly_15 rfl (lv_at hl 2 rfl) ?_
    refine vp_callSi (W.runV (As := [.int a2]) (rest := []) ⟨hx, hb, hml, hown, hts⟩ (kX2_hasPlace l dC dI cu ln bs tk lw li fa lu a2 b_ln b_bs b_tk b_lw) (cwV 1 hts gX9_mostly__X2_hasPlace_V103 rfl rfl rfl hd_yX2_hasPlace ⟨lel 1 3 rfl, lel 21 66 rfl⟩) ⟨pw_fb, rcv_X2 hK hP (q0 := 1) rfl, (pw_use hP hK hN [1] rfl [] rfl)⟩ rfl rfl hl.1 rfl (lv_room (Nat.le_of_ble_eq_true rfl)) dX9_mostly_16 ⟨lel 0 0 rfl, lel 0 0 rfl⟩) (fun r_72 h_r_72 => ?_)
    obtain ⟨b_r_72, nz_r_72⟩ := h_r_72
    have b_r_72 : (0 : Int) ≤ r_72.toInt ∧ r_72.toInt ≤ 1 := b_r_72
    refine lv_if_ne (tgt := 25) hx hb dX9_mostly_19 (by decide) (fun c_73 => ?_) (fun c_73 => ?_)
    ·
      have n_c_73 : (r_72.toInt : Int) ≠ 0 := c_ne rfl (by decide) c_73
      have b_r_72 : (1 : Int) ≤ r_72.toInt ∧ r_72.toInt ≤ 1 := r_ne1 b_r_72 (by decide : (0 : Int) ≤ (0 : Int32).toInt ∧ (0 : Int32).toInt ≤ 0) n_c_73 (by decide)
      obtain ⟨b_a2, g_74⟩ := nz_r_72 c_73
      refine lv_aload_n hx hb dX9_mostly_25 rfl (lv_at hl 0 rfl) ?_
      refine lv_iload_n hx hb dX9_mostly_26 rfl (lv_at hl 1 rfl) ?_
      refine lv_iload_n hx hb dX9_mostly_27 rfl (lv_at hl 2 rfl) ?_
      have hFc := va_free (wc := [(h0, .inr (7, [.ref tp, .ref sc, .ref rd, .ref cu, .ref im, .ref ig, .ref sl, .ref se, .ref sm, .ref fc])), (cu, .inr (1, [.int ln, .int bs, .int tk, .int lw, .int li, .ref fa, .ref lu])), (lu, .inl (cL, nl, .inl fl)), (fa, .inl (cF, nf, .inr (.inl ff))), (fc, .inl (cG, 16, .inl fg))]) hD hS hA [0, 1, 2, 3, 4] rfl
      refine va_callv (va_runV (As := [.int a1, .int a2]) (rest := []) ⟨hx, hb, hml, hown, hts⟩ (kX9_countFigures l dC dI h0 tp sc rd cu im ig sl se sm fc ln bs tk lw li fa lu cL nl fl cF nf ff cG fg a1 a2 (s.heap.size) b_ln b_bs b_tk b_lw (by omega) (by omega)) (cwV 2 hts gX9_mostly__X9_countFigures_V279 rfl rfl rfl hd_yX9_countFigures ⟨lel 3 3 rfl, lel 66 66 rfl⟩) ⟨hw_fb, rcv_X9 hK hP (q0 := 0) rfl, (hw_use hP hD hK hN [0, 1, 2, 3, 4] rfl (by decide) rfl [0, 1, 2] rfl)⟩ rfl rfl hl.1 rfl (lv_room (Nat.le_of_ble_eq_true rfl)) dX9_mostly_28 ⟨lel 0 0 rfl, lel 0 0 rfl⟩) hS (fun q _ h => hFc q h) hFc (fun u_76 t H1 locs ht hvm hw_r_75 hB hz1 hk1 hS => ?_)
      obtain ⟨o0_77, hP1, hK1, hD1⟩ := hB
      rw [ht] at hP1
      have hK1 := va_K.moved hvm.symm hK1
      obtain ⟨hP, hD⟩ := va_join (wr := []) (w1 := [(h0, .inr (7, [.ref tp, .ref sc, .ref rd, .ref cu, .ref im, .ref ig, .ref sl, .ref se, .ref sm, .ref fc])), (cu, .inr (1, [.int ln, .int bs, .int tk, .int lw, .int li, .ref fa, .ref lu])), (lu, .inl (cL, nl, .inl fl)), (fa, .inl (cF, nf, .inr (.inl ff))), (fc, .inl (cG, 16, .inl o0_77))]) hP hD [0, 1, 2, 3, 4] [] rfl rfl (by decide) (by decide) hk1 hFc hP1 hD1
      have hK := (hK.sub (tys' := []) [] rfl).app hK1
      generalize H1 = H at hP hS ⊢
      have hP : va_P (dC, dI) vwCl [(h0, .inr (7, [.ref tp, .ref sc, .ref rd, .ref cu, .ref im, .ref ig, .ref sl, .ref se, .ref sm, .ref fc])), (cu, .inr (1, [.int ln, .int bs, .int tk, .int lw, .int li, .ref fa, .ref lu])), (lu, .inl (cL, nl, .inl fl)), (fa, .inl (cF, nf, .inr (.inl ff))), (fc, .inl (cG, 16, .inl o0_77))] H := hP
      have hD : va_D A [(h0, .inr (7, [.ref tp, .ref sc, .ref rd, .ref cu, .ref im, .ref ig, .ref sl, .ref se, .ref sm, .ref fc])), (cu, .inr (1, [.int ln, .int bs, .int tk, .int lw, .int li, .ref fa, .ref lu])), (lu, .inl (cL, nl, .inl fl)), (fa, .inl (cF, nf, .inr (.inl ff))), (fc, .inl (cG, 16, .inl o0_77))] := hD
      have hK : va_K (dC, dI) vwCl [(cL, .int), (cF, .long), (cG, .int)] s := hK
      refine lv_iconst (v := 0) hx hb dX9_mostly_31 (by decide) ?_
      refine lv_istore_n (lv' := [(3, .int 0), (0, .ref h0), (1, .int a1), (2, .int a2)]) hx hb dX9_mostly_32 rfl hl (by decide) rfl (fun ls hl => ?_)
      refine lv_iconst (v := (-1)) hx hb dX9_mostly_33 (by decide) ?_
      refine lv_istore (lv' := [(4, .int (-1)), (3, .int 0), (0, .ref h0), (1, .int a1), (2, .int a2)]) hx hb dX9_mostly_34 hl (by decide) rfl (fun ls hl => ?_)
      refine lv_iconst (v := 0) hx hb dX9_mostly_36 (by decide) ?_
      refine lv_istore (lv' := [(5, .int 0), (4, .int (-1)), (3, .int 0), (0, .ref h0), (1, .int a1), (2, .int a2)]) hx hb dX9_mostly_37 hl (by decide) rfl (fun ls hl => ?_)
      refine loopW (σ := Int32 × Int32 × Int32) (fun v => (16 - v.1.toInt).toNat) (fun v H locs ls => ((0 : Int) ≤ v.1.toInt ∧ v.1.toInt ≤ 16) ∧ ((-1 : Int) ≤ v.2.1.toInt ∧ v.2.1.toInt ≤ 16) ∧ va_P (dC, dI) vwCl [(h0, .inr (7, [.ref tp, .ref sc, .ref rd, .ref cu, .ref im, .ref ig, .ref sl, .ref se, .ref sm, .ref fc])), (cu, .inr (1, [.int ln, .int bs, .int tk, .int lw, .int li, .ref fa, .ref lu])), (lu, .inl (cL, nl, .inl fl)), (fa, .inl (cF, nf, .inr (.inl ff))), (fc, .inl (cG, 16, .inl o0_77))] H ∧ va_D A [(h0, .inr (7, [.ref tp, .ref sc, .ref rd, .ref cu, .ref im, .ref ig, .ref sl, .ref se, .ref sm, .ref fc])), (cu, .inr (1, [.int ln, .int bs, .int tk, .int lw, .int li, .ref fa, .ref lu])), (lu, .inl (cL, nl, .inl fl)), (fa, .inl (cF, nf, .inr (.inl ff))), (fc, .inl (cG, 16, .inl o0_77))] ∧ va_S A s.heap H locs ∧ lv_has ls 6 [(5, .int v.1), (4, .int v.2.1), (3, .int v.2.2), (0, .ref h0), (1, .int a1), (2, .int a2)]) (fun v H locs ls hI ih_39_128 => ?_) ((0 : Int32), (-1 : Int32), (0 : Int32)) ⟨(show (0 : Int) ≤ (0 : Int32).toInt ∧ (0 : Int32).toInt ≤ 16 from (rg_w (by decide : (0 : Int) ≤ (0 : Int32).toInt ∧ (0 : Int32).toInt ≤ 0) (by decide) (by decide))), (show (-1 : Int) ≤ (-1 : Int32).toInt ∧ (-1 : Int32).toInt ≤ 16 from (rg_w (by decide : (-1 : Int) ≤ ((-1) : Int32).toInt ∧ ((-1) : Int32).toInt ≤ -1) (by decide) (by decide))), hP, hD, hS, lv_sub hl [0, 1, 2, 3, 4, 5] rfl⟩
      obtain ⟨y_86, y_87, y_88⟩ := v
      obtain ⟨b_y_86, b_y_87, hP, hD, hS, hl⟩ := hI
      have b_y_86 : (0 : Int) ≤ y_86.toInt ∧ y_86.toInt ≤ 16 := b_y_86
      have b_y_87 : (-1 : Int) ≤ y_87.toInt ∧ y_87.toInt ≤ 16 := b_y_87
      have hP : va_P (dC, dI) vwCl [(h0, .inr (7, [.ref tp, .ref sc, .ref rd, .ref cu, .ref im, .ref ig, .ref sl, .ref se, .ref sm, .ref fc])), (cu, .inr (1, [.int ln, .int bs, .int tk, .int lw, .int li, .ref fa, .ref lu])), (lu, .inl (cL, nl, .inl fl)), (fa, .inl (cF, nf, .inr (.inl ff))), (fc, .inl (cG, 16, .inl o0_77))] H := hP
      have hD : va_D A [(h0, .inr (7, [.ref tp, .ref sc, .ref rd, .ref cu, .ref im, .ref ig, .ref sl, .ref se, .ref sm, .ref fc])), (cu, .inr (1, [.int ln, .int bs, .int tk, .int lw, .int li, .ref fa, .ref lu])), (lu, .inl (cL, nl, .inl fl)), (fa, .inl (cF, nf, .inr (.inl ff))), (fc, .inl (cG, 16, .inl o0_77))] := hD
      have hl : lv_has ls 6 [(5, .int y_86), (4, .int y_87), (3, .int y_88), (0, .ref h0), (1, .int a1), (2, .int a2)] := hl
      refine lv_iload hx hb dX9_mostly_39 (lv_at hl 0 rfl) ?_
      refine lv_aload_n hx hb dX9_mostly_41 rfl (lv_at hl 3 rfl) ?_
      refine va_get (D := (dC, dI)) (ci := 7) (v := .ref cu) (C := RX9) (T := TX9) (N := 10) hx hb hts iX9_mostly_X9 hown hK hP 0 rfl rfl 3 (by decide) (hts (.fieldLink RX9 35 "LuckyTicket" "current" "LLuckyTicket$Roll;") (List.mem_of_getElem? (i := 1) rfl)) (fun _ h9 => h9) rfl dX9_mostly_42 ?_
      refine va_getN (own := RX9) (index := 220) (ref := RX2) (host := RX9) (D := (dC, dI)) (ci := 1) (v := .int bs) (C := RX2) (T := TX2) (N := 7) hx hb hts iX9_mostly_X2 hown hK hP 1 rfl rfl 1 (by decide) (va_Nw.use rfl (hN _ (List.mem_of_getElem? (i := 16) rfl))) (fun _ h9 => h9) rfl dX9_mostly_45 ?_
      refine lv_icmp_ge (tgt := 78) hx hb dX9_mostly_48 (by decide) (fun c_129 => ?_) (fun c_129 => ?_)
      ·
        have n_c_129 : (bs.toInt : Int) ≤ y_86.toInt := c_ge rfl rfl c_129
        refine lv_iload hx hb dX9_mostly_78 (lv_at hl 1 rfl) ?_
        have hP9 := hP.sub (ws' := [(h0, .inr (7, [.ref tp, .ref sc, .ref rd, .ref cu, .ref im, .ref ig, .ref sl, .ref se, .ref sm, .ref fc])), (cu, .inr (1, [.int ln, .int bs, .int tk, .int lw, .int li, .ref fa, .ref lu])), (lu, .inl (cL, nl, .inl fl)), (fa, .inl (cF, nf, .inr (.inl ff))), (fc, .inl (cG, 16, .inl o0_77))]) [0, 1, 2, 3, 4] rfl
        have hD9 := hD.sub (ws' := [(h0, .inr (7, [.ref tp, .ref sc, .ref rd, .ref cu, .ref im, .ref ig, .ref sl, .ref se, .ref sm, .ref fc])), (cu, .inr (1, [.int ln, .int bs, .int tk, .int lw, .int li, .ref fa, .ref lu])), (lu, .inl (cL, nl, .inl fl)), (fa, .inl (cF, nf, .inr (.inl ff))), (fc, .inl (cG, 16, .inl o0_77))]) [0, 1, 2, 3, 4] (by decide) rfl
        have hK9 := hK.sub (tys' := [(cL, .int), (cF, .long), (cG, .int)]) [0, 1, 2] rfl
        exact W.iret (v := y_87) hx hb hr (fun t ht hW => ⟨⟨y_87, (), rfl, (rg_w b_y_87 (by decide) (by decide)), o0_77, by rw [ht]; exact hP9, va_K.moved hW.alike hK9, hD9⟩, hS.F ht⟩) hS.2.2 dX9_mostly_80
      ·
        have n_c_129 : (y_86.toInt : Int) < bs.toInt := c_nge rfl rfl c_129
        have b_y_86 : (0 : Int) ≤ y_86.toInt ∧ y_86.toInt ≤ 15 := r_lt1 b_y_86 b_bs n_c_129 (by decide)
        have b_bs : (1 : Int) ≤ bs.toInt ∧ bs.toInt ≤ 16 := r_lt2 b_y_86 b_bs n_c_129 (by decide)
        refine lv_aload_n hx hb dX9_mostly_51 rfl (lv_at hl 3 rfl) ?_
        refine lv_iload hx hb dX9_mostly_52 (lv_at hl 0 rfl) ?_
        refine vp_callSi (W.runV (As := [.int y_86]) (rest := []) ⟨hx, hb, hml, hown, hts⟩ (kX9_countedFigure l dC dI h0 tp sc rd cu im ig sl se sm fc cG o0_77 y_86 ) (cwV 1 hts gX9_mostly__X9_countedFigure_V283 rfl rfl rfl hd_yX9_countedFigure ⟨lel 2 3 rfl, lel 43 66 rfl⟩) ⟨pw_fb, rcv_X9 hK hP (q0 := 0) rfl, (pw_use hP hK hN [0, 4] rfl [2] rfl)⟩ rfl rfl hl.1 rfl (lv_room (Nat.le_of_ble_eq_true rfl)) dX9_mostly_54 ⟨lel 0 0 rfl, lel 0 0 rfl⟩) (fun r_130 h_r_130 => ?_)
        refine lv_iload_n hx hb dX9_mostly_57 rfl (lv_at hl 2 rfl) ?_
        refine cutW (σ := Int32 × Int32) (pc2 := 72) (st2 := fun v => []) (cells2 := 0) (slots2 := 0) (fun v H locs ls => ((-1 : Int) ≤ v.1.toInt ∧ v.1.toInt ≤ 16) ∧ va_P (dC, dI) vwCl [(h0, .inr (7, [.ref tp, .ref sc, .ref rd, .ref cu, .ref im, .ref ig, .ref sl, .ref se, .ref sm, .ref fc])), (cu, .inr (1, [.int ln, .int bs, .int tk, .int lw, .int li, .ref fa, .ref lu])), (lu, .inl (cL, nl, .inl fl)), (fa, .inl (cF, nf, .inr (.inl ff))), (fc, .inl (cG, 16, .inl o0_77))] H ∧ va_D A [(h0, .inr (7, [.ref tp, .ref sc, .ref rd, .ref cu, .ref im, .ref ig, .ref sl, .ref se, .ref sm, .ref fc])), (cu, .inr (1, [.int ln, .int bs, .int tk, .int lw, .int li, .ref fa, .ref lu])), (lu, .inl (cL, nl, .inl fl)), (fa, .inl (cF, nf, .inr (.inl ff))), (fc, .inl (cG, 16, .inl o0_77))] ∧ va_S A s.heap H locs ∧ lv_has ls 6 [(5, .int y_86), (4, .int v.1), (3, .int v.2), (0, .ref h0), (1, .int a1), (2, .int a2)]) (fun v H locs ls hI => ?_) (fun hj_72_134 => ?_)
        ·
          obtain ⟨y_133, y_134⟩ := v
          obtain ⟨b_y_133, hP, hD, hS, hl⟩ := hI
          have b_y_133 : (-1 : Int) ≤ y_133.toInt ∧ y_133.toInt ≤ 16 := b_y_133
          have hP : va_P (dC, dI) vwCl [(h0, .inr (7, [.ref tp, .ref sc, .ref rd, .ref cu, .ref im, .ref ig, .ref sl, .ref se, .ref sm, .ref fc])), (cu, .inr (1, [.int ln, .int bs, .int tk, .int lw, .int li, .ref fa, .ref lu])), (lu, .inl (cL, nl, .inl fl)), (fa, .inl (cF, nf, .inr (.inl ff))), (fc, .inl (cG, 16, .inl o0_77))] H := hP
          have hD : va_D A [(h0, .inr (7, [.ref tp, .ref sc, .ref rd, .ref cu, .ref im, .ref ig, .ref sl, .ref se, .ref sm, .ref fc])), (cu, .inr (1, [.int ln, .int bs, .int tk, .int lw, .int li, .ref fa, .ref lu])), (lu, .inl (cL, nl, .inl fl)), (fa, .inl (cF, nf, .inr (.inl ff))), (fc, .inl (cG, 16, .inl o0_77))] := hD
          have hl : lv_has ls 6 [(5, .int y_86), (4, .int y_133), (3, .int y_134), (0, .ref h0), (1, .int a1), (2, .int a2)] := hl
          obtain ⟨z_135, e_z_135⟩ : ∃ y : Int32, y = y_86 + 1 := ⟨_, rfl⟩
          refine lv_iinc (v := z_135) (lv' := [(5, .int z_135), (4, .int y_133), (3, .int y_134), (0, .ref h0), (1, .int a1), (2, .int a2)]) hx hb dX9_mostly_72 hl (k := 0) rfl (by rw [e_z_135]; rfl) (by decide) rfl (fun ls hl => ?_)
          obtain ⟨q_z_135, b_z_135⟩ := ti_add (lo := 1) (hi := 16) e_z_135 rfl (by decide : (1 : Int32).toInt = 1) b_y_86 (by decide : (1 : Int) ≤ (1 : Int32).toInt ∧ (1 : Int32).toInt ≤ 1) (by decide)
          refine lv_goto (tgt := 39) hx hb dX9_mostly_75 (by decide) ?_
          exact ih_39_128 (z_135, y_133, y_134) _ _ _ ⟨(show (0 : Int) ≤ z_135.toInt ∧ z_135.toInt ≤ 16 from (rg_w b_z_135 (by decide) (by decide))), (show (-1 : Int) ≤ y_133.toInt ∧ y_133.toInt ≤ 16 from b_y_133), hP, hD, hS, lv_sub hl [0, 1, 2, 3, 4, 5] rfl⟩ (show (16 - z_135.toInt).toNat < (16 - y_86.toInt).toNat by omega)
        ·
          refine lv_icmp_le (tgt := 72) hx hb dX9_mostly_58 (by decide) (fun c_131 => ?_) (fun c_131 => ?_)
          ·
            have n_c_131 : (r_130.toInt : Int) ≤ y_88.toInt := c_le rfl rfl c_131
            exact hj_72_134 (y_87, y_88) _ _ _ ⟨(show (-1 : Int) ≤ y_87.toInt ∧ y_87.toInt ≤ 16 from b_y_87), hP, hD, hS, lv_sub hl [0, 1, 2, 3, 4, 5] rfl⟩
          ·
            have n_c_131 : (y_88.toInt : Int) < r_130.toInt := c_nle rfl rfl c_131
            have b_y_88 : (-2147483648 : Int) ≤ y_88.toInt ∧ y_88.toInt ≤ 2147483646 := r_lt1 (ti_rng y_88) (ti_rng r_130) n_c_131 (by decide)
            have b_r_130 : (-2147483647 : Int) ≤ r_130.toInt ∧ r_130.toInt ≤ 2147483647 := r_lt2 (ti_rng y_88) (ti_rng r_130) n_c_131 (by decide)
            refine lv_aload_n hx hb dX9_mostly_61 rfl (lv_at hl 3 rfl) ?_
            refine lv_iload hx hb dX9_mostly_62 (lv_at hl 0 rfl) ?_
            refine vp_callSi (W.runV (As := [.int y_86]) (rest := []) ⟨hx, hb, hml, hown, hts⟩ (kX9_countedFigure l dC dI h0 tp sc rd cu im ig sl se sm fc cG o0_77 y_86 ) (cwV 1 hts gX9_mostly__X9_countedFigure_V283 rfl rfl rfl hd_yX9_countedFigure ⟨lel 2 3 rfl, lel 43 66 rfl⟩) ⟨pw_fb, rcv_X9 hK hP (q0 := 0) rfl, (pw_use hP hK hN [0, 4] rfl [2] rfl)⟩ rfl rfl hl.1 rfl (lv_room (Nat.le_of_ble_eq_true rfl)) dX9_mostly_64 ⟨lel 0 0 rfl, lel 0 0 rfl⟩) (fun r_136 h_r_136 => ?_)
            refine lv_istore_n (lv' := [(3, .int r_136), (5, .int y_86), (4, .int y_87), (0, .ref h0), (1, .int a1), (2, .int a2)]) hx hb dX9_mostly_67 rfl hl (by decide) rfl (fun ls hl => ?_)
            refine lv_iload hx hb dX9_mostly_68 (lv_at hl 1 rfl) ?_
            refine lv_istore (lv' := [(4, .int y_86), (3, .int r_136), (5, .int y_86), (0, .ref h0), (1, .int a1), (2, .int a2)]) hx hb dX9_mostly_70 hl (by decide) rfl (fun ls hl => ?_)
            exact hj_72_134 (y_86, r_136) _ _ _ ⟨(show (-1 : Int) ≤ y_86.toInt ∧ y_86.toInt ≤ 16 from (rg_w b_y_86 (by decide) (by decide))), hP, hD, hS, lv_sub hl [2, 0, 1, 3, 4, 5] rfl⟩
    ·
      have n_c_73 : (r_72.toInt : Int) = 0 := c_eq rfl (by decide) c_73
      have b_r_72 : (0 : Int) ≤ r_72.toInt ∧ r_72.toInt ≤ 0 := r_eq1 b_r_72 (by decide : (0 : Int) ≤ (0 : Int32).toInt ∧ (0 : Int32).toInt ≤ 0) n_c_73 (by decide)
      refine lv_bipush (v := (-2)) hx hb dX9_mostly_22 (by decide) ?_
      have hP9 := hP.sub (ws' := [(h0, .inr (7, [.ref tp, .ref sc, .ref rd, .ref cu, .ref im, .ref ig, .ref sl, .ref se, .ref sm, .ref fc])), (cu, .inr (1, [.int ln, .int bs, .int tk, .int lw, .int li, .ref fa, .ref lu])), (lu, .inl (cL, nl, .inl fl)), (fa, .inl (cF, nf, .inr (.inl ff))), (fc, .inl (cG, 16, .inl fg))]) [0, 1, 2, 3, 4] rfl
      have hD9 := hD.sub (ws' := [(h0, .inr (7, [.ref tp, .ref sc, .ref rd, .ref cu, .ref im, .ref ig, .ref sl, .ref se, .ref sm, .ref fc])), (cu, .inr (1, [.int ln, .int bs, .int tk, .int lw, .int li, .ref fa, .ref lu])), (lu, .inl (cL, nl, .inl fl)), (fa, .inl (cF, nf, .inr (.inl ff))), (fc, .inl (cG, 16, .inl fg))]) [0, 1, 2, 3, 4] (by decide) rfl
      have hK9 := hK.sub (tys' := [(cL, .int), (cF, .long), (cG, .int)]) [0, 1, 2] rfl
      exact W.iret (v := (-2)) hx hb hr (fun t ht hW => ⟨⟨(-2), (), rfl, (rg_w (by decide : (-2 : Int) ≤ ((-2) : Int32).toInt ∧ ((-2) : Int32).toInt ≤ -2) (by decide) (by decide)), fg, by rw [ht]; exact hP9, va_K.moved hW.alike hK9, hD9⟩, hS.F ht⟩) hS.2.2 dX9_mostly_24
theorem dX7_hasRoomFor_0 : decode cX7_hasRoomFor 0 = .ok (.aload_n 0, 1) := by decide +kernel
theorem dX7_hasRoomFor_1 : decode cX7_hasRoomFor 1 = .ok (.getfield 13, 3) := by decide +kernel
theorem dX7_hasRoomFor_4 : decode cX7_hasRoomFor 4 = .ok (.iload_n 1, 1) := by decide +kernel
theorem dX7_hasRoomFor_5 : decode cX7_hasRoomFor 5 = .ok (.iadd, 1) := by decide +kernel
theorem dX7_hasRoomFor_6 : decode cX7_hasRoomFor 6 = .ok (.sipush 1200, 3) := by decide +kernel
theorem dX7_hasRoomFor_9 : decode cX7_hasRoomFor 9 = .ok (.if_icmp .gt 7, 3) := by decide +kernel
theorem dX7_hasRoomFor_12 : decode cX7_hasRoomFor 12 = .ok (.iconst 1, 1) := by decide +kernel
theorem dX7_hasRoomFor_13 : decode cX7_hasRoomFor 13 = .ok (.goto 4, 3) := by decide +kernel
theorem dX7_hasRoomFor_16 : decode cX7_hasRoomFor 16 = .ok (.iconst 0, 1) := by decide +kernel
theorem dX7_hasRoomFor_17 : decode cX7_hasRoomFor 17 = .ok (.ireturn, 1) := by decide +kernel
theorem hd_yX7_hasRoomFor : yX7_hasRoomFor.cls = RX7 ∧ yX7_hasRoomFor.cls ≠ "java/lang/invoke/MethodHandle" ∧ yX7_hasRoomFor.cls ≠ "java/lang/invoke/VarHandle" ∧ (parseMethodDescriptor yX7_hasRoomFor.desc).map (fun d => d.parameters.length) = some 1 := by decide +kernel
def uX7_hasRoomFor : List Cond := List.cons (.code yX7_hasRoomFor cX7_hasRoomFor 2 (some .boolean)) (HAppend.hAppend ([.fieldLink RX7 13 "LuckyTicket$Tape" "size" "I"] : List Cond) wsX70)
theorem iX7_hasRoomFor_X7 : ∀ w ∈ wsX70, w ∈ uX7_hasRoomFor := fun _ h => (List.mem_cons_of_mem _ (List.mem_append_right _ h))
theorem guX7_hasRoomFor : GU uX7_hasRoomFor := gu_cons (gu_app (by decide +kernel) gws_X7)
set_option maxHeartbeats 4000000 in
set_option maxRecDepth 100000 in
theorem kX7_hasRoomFor (l : Launch) (dC : Nat → ClassId) (dI : Nat → Nat → Nat) (tp : Nat) (tb : Nat) (ts : Int32) (a1 : Int32) (b_ts : (0 : Int) ≤ ts.toInt ∧ ts.toInt ≤ 1200) (b_a1 : (20 : Int) ≤ a1.toInt ∧ a1.toInt ≤ 20) : Met l yX7_hasRoomFor uX7_hasRoomFor ({ frames := 0, cells := 0, slots := 0, locals := 0 }) (va_Pc [.ref tp, .int a1] (pw (dC, dI) vwCl [(tp, .inr (6, [.ref tb, .int ts]))] [])) (vp_Si (fun r => ((0 : Int) ≤ r.toInt ∧ r.toInt ≤ 1) ∧ (r ≠ 0 → ((0 : Int) ≤ ts.toInt ∧ ts.toInt ≤ 1180) ∧ (True)))) 0 0 (fun _ => False) := by
  refine Met.ofW (cc := cX7_hasRoomFor) (maxL := 2) (ret := (some .boolean)) pn_X7 rfl ?_
  intro p e s m args below meth c s₁ B hml hv
  obtain ⟨rfl, hP, hK, hN⟩ := hv
  have hx := B.exec
  have hb := B.bytes
  have hr := B.returns
  have hts := atoms_spec (ws := uX7_hasRoomFor) B.pre
  have hown : s.vm.findClass RX7 = some m.cls := hown_of B.named rfl
  have hlocks := B.notSynchronized
  have hl := lv_entry ([.ref tp, .int a1]) (n := 2) (Nat.le_of_ble_eq_true rfl)
  rw [lg_entry_eq]
  generalize (lg_sl ([.ref tp, .int a1]) ++ List.replicate (2 - (lg_sl ([.ref tp, .int a1])).length) Slot.unset).toArray = ls at hl ⊢
  have hl : lv_has ls 2 [(0, .ref tp), (1, .int a1)] := hl
  refine lv_aload_n hx hb dX7_hasRoomFor_0 rfl (lv_at hl 0 rfl) ?_
  refine va_get (D := (dC, dI)) (ci := 6) (v := .int ts) (C := RX7) (T := TX7) (N := 2) hx hb hts iX7_hasRoomFor_X7 hown hK hP 0 rfl rfl 1 (by decide) (hts (.fieldLink RX7 13 "LuckyTicket$Tape" "size" "I") (List.mem_of_getElem? (i := 1) rfl)) (fun _ h9 => h9) rfl dX7_hasRoomFor_1 ?_
  refine lv_iload_n hx hb dX7_hasRoomFor_4 rfl (lv_at hl 1 rfl) ?_
  refine lv_iadd hx hb dX7_hasRoomFor_5 ?_
  refine lv_topi (fun z_3 e_z_3 => ?_)
  obtain ⟨q_z_3, b_z_3⟩ := ti_add (lo := 20) (hi := 1220) e_z_3 rfl rfl b_ts b_a1 (by decide)
  refine lv_sipush (v := 1200) hx hb dX7_hasRoomFor_6 (by decide) ?_
  refine lv_icmp_gt (tgt := 16) hx hb dX7_hasRoomFor_9 (by decide) (fun c_4 => ?_) (fun c_4 => ?_)
  ·
    have n_c_4 : (1200 : Int) < z_3.toInt := c_gt rfl (by decide) c_4
    have b_z_3 : (1201 : Int) ≤ z_3.toInt ∧ z_3.toInt ≤ 1220 := r_lt2 (by decide : (1200 : Int) ≤ (1200 : Int32).toInt ∧ (1200 : Int32).toInt ≤ 1200) b_z_3 n_c_4 (by decide)
    have b_ts : (1181 : Int) ≤ ts.toInt ∧ ts.toInt ≤ 1200 := by
      have q0 := b_z_3; have q1 := q_z_3; have q2 := b_ts; have q3 := b_a1; omega
    refine lv_iconst (v := 0) hx hb dX7_hasRoomFor_16 (by decide) ?_
    exact W.zret (v := 0) hx hb hr rfl (fun t ht hW => ⟨0, rfl, ⟨(rg_w (by decide : (0 : Int) ≤ (0 : Int32).toInt ∧ (0 : Int32).toInt ≤ 0) (by decide) (by decide)), (fun h9 => absurd rfl h9)⟩, ht⟩) t_nil dX7_hasRoomFor_17
  ·
    have n_c_4 : (z_3.toInt : Int) ≤ 1200 := c_ngt rfl (by decide) c_4
    have b_z_3 : (20 : Int) ≤ z_3.toInt ∧ z_3.toInt ≤ 1200 := r_le1 b_z_3 (by decide : (1200 : Int) ≤ (1200 : Int32).toInt ∧ (1200 : Int32).toInt ≤ 1200) n_c_4 (by decide)
    have b_ts : (0 : Int) ≤ ts.toInt ∧ ts.toInt ≤ 1180 := by
      have q0 := b_z_3; have q1 := q_z_3; have q2 := b_ts; have q3 := b_a1; omega
    refine lv_iconst (v := 1) hx hb dX7_hasRoomFor_12 (by decide) ?_
    refine lv_goto (tgt := 17) hx hb dX7_hasRoomFor_13 (by decide) ?_
    exact W.zret (v := 1) hx hb hr rfl (fun t ht hW => ⟨1, rfl, ⟨(rg_w (by decide : (1 : Int) ≤ (1 : Int32).toInt ∧ (1 : Int32).toInt ≤ 1) (by decide) (by decide)), (fun _ => ⟨⟨by omega, by omega⟩, trivial⟩)⟩, ht⟩) t_nil dX7_hasRoomFor_17
theorem dX7_append_0 : decode cX7_append 0 = .ok (.bipush 24, 2) := by decide +kernel
theorem dX7_append_2 : decode cX7_append 2 = .ok (.istore_n 2, 1) := by decide +kernel
theorem dX7_append_3 : decode cX7_append 3 = .ok (.iload_n 2, 1) := by decide +kernel
theorem dX7_append_4 : decode cX7_append 4 = .ok (.ifCond .lt 42, 3) := by decide +kernel
theorem dX7_append_7 : decode cX7_append 7 = .ok (.aload_n 0, 1) := by decide +kernel
theorem dX7_append_8 : decode cX7_append 8 = .ok (.getfield 13, 3) := by decide +kernel
theorem dX7_append_11 : decode cX7_append 11 = .ok (.sipush 1200, 3) := by decide +kernel
theorem dX7_append_14 : decode cX7_append 14 = .ok (.if_icmp .ge 26, 3) := by decide +kernel
theorem dX7_append_17 : decode cX7_append 17 = .ok (.aload_n 0, 1) := by decide +kernel
theorem dX7_append_18 : decode cX7_append 18 = .ok (.getfield 9, 3) := by decide +kernel
theorem dX7_append_21 : decode cX7_append 21 = .ok (.aload_n 0, 1) := by decide +kernel
theorem dX7_append_22 : decode cX7_append 22 = .ok (.getfield 13, 3) := by decide +kernel
theorem dX7_append_25 : decode cX7_append 25 = .ok (.iload_n 1, 1) := by decide +kernel
theorem dX7_append_26 : decode cX7_append 26 = .ok (.iload_n 2, 1) := by decide +kernel
theorem dX7_append_27 : decode cX7_append 27 = .ok (.iushr, 1) := by decide +kernel
theorem dX7_append_28 : decode cX7_append 28 = .ok (.i2b, 1) := by decide +kernel
theorem dX7_append_29 : decode cX7_append 29 = .ok (.bastore, 1) := by decide +kernel
theorem dX7_append_30 : decode cX7_append 30 = .ok (.aload_n 0, 1) := by decide +kernel
theorem dX7_append_31 : decode cX7_append 31 = .ok (.dup, 1) := by decide +kernel
theorem dX7_append_32 : decode cX7_append 32 = .ok (.getfield 13, 3) := by decide +kernel
theorem dX7_append_35 : decode cX7_append 35 = .ok (.iconst 1, 1) := by decide +kernel
theorem dX7_append_36 : decode cX7_append 36 = .ok (.iadd, 1) := by decide +kernel
theorem dX7_append_37 : decode cX7_append 37 = .ok (.putfield 13, 3) := by decide +kernel
theorem dX7_append_40 : decode cX7_append 40 = .ok (.iinc 2 (-8), 3) := by decide +kernel
theorem dX7_append_43 : decode cX7_append 43 = .ok (.goto (-40), 3) := by decide +kernel
theorem dX7_append_46 : decode cX7_append 46 = .ok (.return_, 1) := by decide +kernel
theorem hd_yX7_append : yX7_append.cls = RX7 ∧ yX7_append.cls ≠ "java/lang/invoke/MethodHandle" ∧ yX7_append.cls ≠ "java/lang/invoke/VarHandle" ∧ (parseMethodDescriptor yX7_append.desc).map (fun d => d.parameters.length) = some 1 := by decide +kernel
def uX7_append : List Cond := List.cons (.code yX7_append cX7_append 3 none) (HAppend.hAppend ([.fieldLink RX7 13 "LuckyTicket$Tape" "size" "I", .fieldLink RX7 9 "LuckyTicket$Tape" "bytes" "[B"] : List Cond) wsX70)
theorem iX7_append_X7 : ∀ w ∈ wsX70, w ∈ uX7_append := fun _ h => (List.mem_cons_of_mem _ (List.mem_append_right _ h))
theorem guX7_append : GU uX7_append := gu_cons (gu_app (by decide +kernel) gws_X7)
set_option maxHeartbeats 4000000 in
set_option maxRecDepth 100000 in
theorem kX7_append (l : Launch) (dC : Nat → ClassId) (dI : Nat → Nat → Nat) (tp : Nat) (tb : Nat) (ts : Int32) (cB : ClassId) (fb : Nat → Int32) (a1 : Int32) (sz : Nat) (b_ts : (0 : Int) ≤ ts.toInt ∧ ts.toInt ≤ 1200) : Met l yX7_append uX7_append ({ frames := 0, cells := 0, slots := 0, locals := 0 }) (va_Pc [.ref tp, .int a1] (hw (dC, dI) vwCl [(tp, .inr (6, [.ref tb, .int ts])), (tb, .inl (cB, 1200, .inl fb))] [(cB, .byte)] sz)) (va_Qv (fun (_ : Unit) => True) (fun (_ : Unit) t => ∃ (o0_ : Int32) (o1_ : Nat → Int32), ((0 : Int) ≤ o0_.toInt ∧ o0_.toInt ≤ 1200) ∧ va_P (dC, dI) vwCl [(tp, .inr (6, [.ref tb, .int o0_])), (tb, .inl (cB, 1200, .inl o1_))] t.heap ∧ va_K (dC, dI) vwCl [(cB, .byte)] t ∧ va_D (va_A [(tp, .inr (6, [.ref tb, .int ts])), (tb, .inl (cB, 1200, .inl fb))] sz) [(tp, .inr (6, [.ref tb, .int o0_])), (tb, .inl (cB, 1200, .inl o1_))]) (va_A [(tp, .inr (6, [.ref tb, .int ts])), (tb, .inl (cB, 1200, .inl fb))] sz)) 0 0 (va_A [(tp, .inr (6, [.ref tb, .int ts])), (tb, .inl (cB, 1200, .inl fb))] sz) := by
  refine Met.ofW (cc := cX7_append) (maxL := 3) (ret := none) pn_X7 rfl ?_
  intro p e s m args below meth c s₁ B hml hv
  obtain ⟨rfl, hsz, hP, hK, hD0, hN⟩ := hv
  have hx := B.exec
  have hb := B.bytes
  have hr := B.returns
  have hts := atoms_spec (ws := uX7_append) B.pre
  have hown : s.vm.findClass RX7 = some m.cls := hown_of B.named rfl
  have hlocks := B.notSynchronized
  subst hsz
  have hD := hD0.self (sz := s.heap.size)
  generalize hAe : va_A [(tp, .inr (6, [.ref tb, .int ts])), (tb, .inl (cB, 1200, .inl fb))] s.heap.size = A at hD ⊢
  have hA : ∀ q : Nat, s.heap.size ≤ q → A q := fun q h => by rw [← hAe]; exact Or.inr h
  have hS : va_S A s.heap s.heap [] := va_S.rf
  have hP : va_P (dC, dI) vwCl [(tp, .inr (6, [.ref tb, .int ts])), (tb, .inl (cB, 1200, .inl fb))] s.heap := hP
  have hl := lv_entry ([.ref tp, .int a1]) (n := 3) (Nat.le_of_ble_eq_true rfl)
  rw [lg_entry_eq]
  generalize (lg_sl ([.ref tp, .int a1]) ++ List.replicate (3 - (lg_sl ([.ref tp, .int a1])).length) Slot.unset).toArray = ls at hl ⊢
  have hl : lv_has ls 3 [(0, .ref tp), (1, .int a1)] := hl
  refine lv_bipush (v := 24) hx hb dX7_append_0 (by decide) ?_
  refine lv_istore_n (lv' := [(2, .int 24), (0, .ref tp), (1, .int a1)]) hx hb dX7_append_2 rfl hl (by decide) rfl (fun ls hl => ?_)
  refine loopW (σ := Int32 × Int32 × (Nat → Int32)) (fun v => (v.1.toInt - (-8)).toNat) (fun v H locs ls => ((-8 : Int) ≤ v.1.toInt ∧ v.1.toInt ≤ 24) ∧ ((0 : Int) ≤ v.2.1.toInt ∧ v.2.1.toInt ≤ 1200) ∧ va_P (dC, dI) vwCl [(tp, .inr (6, [.ref tb, .int v.2.1])), (tb, .inl (cB, 1200, .inl v.2.2))] H ∧ va_D A [(tp, .inr (6, [.ref tb, .int v.2.1])), (tb, .inl (cB, 1200, .inl v.2.2))] ∧ va_S A s.heap H locs ∧ lv_has ls 3 [(2, .int v.1), (0, .ref tp), (1, .int a1)]) (fun v H locs ls hI ih_3_175 => ?_) ((24 : Int32), ts, fb) ⟨(show (-8 : Int) ≤ (24 : Int32).toInt ∧ (24 : Int32).toInt ≤ 24 from (rg_w (by decide : (24 : Int) ≤ (24 : Int32).toInt ∧ (24 : Int32).toInt ≤ 24) (by decide) (by decide))), (show (0 : Int) ≤ ts.toInt ∧ ts.toInt ≤ 1200 from b_ts), hP, hD, hS, lv_sub hl [0, 1, 2] rfl⟩
  obtain ⟨y_108, y_109, f_110⟩ := v
  obtain ⟨b_y_108, b_y_109, hP, hD, hS, hl⟩ := hI
  have b_y_108 : (-8 : Int) ≤ y_108.toInt ∧ y_108.toInt ≤ 24 := b_y_108
  have b_y_109 : (0 : Int) ≤ y_109.toInt ∧ y_109.toInt ≤ 1200 := b_y_109
  have hP : va_P (dC, dI) vwCl [(tp, .inr (6, [.ref tb, .int y_109])), (tb, .inl (cB, 1200, .inl f_110))] H := hP
  have hD : va_D A [(tp, .inr (6, [.ref tb, .int y_109])), (tb, .inl (cB, 1200, .inl f_110))] := hD
  have hl : lv_has ls 3 [(2, .int y_108), (0, .ref tp), (1, .int a1)] := hl
  refine lv_iload_n hx hb dX7_append_3 rfl (lv_at hl 0 rfl) ?_
  refine lv_if_lt (tgt := 46) hx hb dX7_append_4 (by decide) (fun c_176 => ?_) (fun c_176 => ?_)
  ·
    have n_c_176 : (y_108.toInt : Int) < 0 := c_lt rfl (by decide) c_176
    have b_y_108 : (-8 : Int) ≤ y_108.toInt ∧ y_108.toInt ≤ -1 := r_lt1 b_y_108 (by decide : (0 : Int) ≤ (0 : Int32).toInt ∧ (0 : Int32).toInt ≤ 0) n_c_176 (by decide)
    have hP9 := hP.sub (ws' := [(tp, .inr (6, [.ref tb, .int y_109])), (tb, .inl (cB, 1200, .inl f_110))]) [0, 1] rfl
    have hD9 := hD.sub (ws' := [(tp, .inr (6, [.ref tb, .int y_109])), (tb, .inl (cB, 1200, .inl f_110))]) [0, 1] (by decide) rfl
    have hK9 := hK.sub (tys' := [(cB, .byte)]) [0] rfl
    exact W.vret hx hb hr (fun t ht hW => ⟨⟨(), rfl, trivial, y_109, f_110, b_y_109, by rw [ht]; exact hP9, va_K.moved hW.alike hK9, hD9⟩, hS.F ht⟩) hS.2.2 dX7_append_46
  ·
    have n_c_176 : (0 : Int) ≤ y_108.toInt := c_nlt rfl (by decide) c_176
    have b_y_108 : (0 : Int) ≤ y_108.toInt ∧ y_108.toInt ≤ 24 := r_le2 (by decide : (0 : Int) ≤ (0 : Int32).toInt ∧ (0 : Int32).toInt ≤ 0) b_y_108 n_c_176 (by decide)
    refine lv_aload_n hx hb dX7_append_7 rfl (lv_at hl 1 rfl) ?_
    refine va_get (D := (dC, dI)) (ci := 6) (v := .int y_109) (C := RX7) (T := TX7) (N := 2) hx hb hts iX7_append_X7 hown hK hP 0 rfl rfl 1 (by decide) (hts (.fieldLink RX7 13 "LuckyTicket$Tape" "size" "I") (List.mem_of_getElem? (i := 1) rfl)) (fun _ h9 => h9) rfl dX7_append_8 ?_
    refine lv_sipush (v := 1200) hx hb dX7_append_11 (by decide) ?_
    refine cutW (σ := Int32 × (Nat → Int32)) (pc2 := 40) (st2 := fun v => []) (cells2 := 0) (slots2 := 0) (fun v H locs ls => ((1 : Int) ≤ v.1.toInt ∧ v.1.toInt ≤ 1200) ∧ va_P (dC, dI) vwCl [(tp, .inr (6, [.ref tb, .int v.1])), (tb, .inl (cB, 1200, .inl v.2))] H ∧ va_D A [(tp, .inr (6, [.ref tb, .int v.1])), (tb, .inl (cB, 1200, .inl v.2))] ∧ va_S A s.heap H locs ∧ lv_has ls 3 [(2, .int y_108), (0, .ref tp), (1, .int a1)]) (fun v H locs ls hI => ?_) (fun hj_40_183 => ?_)
    ·
      obtain ⟨y_182, f_183⟩ := v
      obtain ⟨b_y_182, hP, hD, hS, hl⟩ := hI
      have b_y_182 : (1 : Int) ≤ y_182.toInt ∧ y_182.toInt ≤ 1200 := b_y_182
      have hP : va_P (dC, dI) vwCl [(tp, .inr (6, [.ref tb, .int y_182])), (tb, .inl (cB, 1200, .inl f_183))] H := hP
      have hD : va_D A [(tp, .inr (6, [.ref tb, .int y_182])), (tb, .inl (cB, 1200, .inl f_183))] := hD
      have hl : lv_has ls 3 [(2, .int y_108), (0, .ref tp), (1, .int a1)] := hl
      obtain ⟨z_184, e_z_184⟩ : ∃ y : Int32, y = y_108 + (-8) := ⟨_, rfl⟩
      refine lv_iinc (v := z_184) (lv' := [(2, .int z_184), (0, .ref tp), (1, .int a1)]) hx hb dX7_append_40 hl (k := 0) rfl (by rw [e_z_184]; rfl) (by decide) rfl (fun ls hl => ?_)
      obtain ⟨q_z_184, b_z_184⟩ := ti_add (lo := -8) (hi := 16) e_z_184 rfl (by decide : ((-8) : Int32).toInt = -8) b_y_108 (by decide : (-8 : Int) ≤ ((-8) : Int32).toInt ∧ ((-8) : Int32).toInt ≤ -8) (by decide)
      refine lv_goto (tgt := 3) hx hb dX7_append_43 (by decide) ?_
      exact ih_3_175 (z_184, y_182, f_183) _ _ _ ⟨(show (-8 : Int) ≤ z_184.toInt ∧ z_184.toInt ≤ 24 from (rg_w b_z_184 (by decide) (by decide))), (show (0 : Int) ≤ y_182.toInt ∧ y_182.toInt ≤ 1200 from (rg_w b_y_182 (by decide) (by decide))), hP, hD, hS, lv_sub hl [0, 1, 2] rfl⟩ (show (z_184.toInt - (-8)).toNat < (y_108.toInt - (-8)).toNat by omega)
    ·
      refine lv_icmp_ge (tgt := 40) hx hb dX7_append_14 (by decide) (fun c_177 => ?_) (fun c_177 => ?_)
      ·
        have n_c_177 : (1200 : Int) ≤ y_109.toInt := c_ge rfl (by decide) c_177
        have b_y_109 : (1200 : Int) ≤ y_109.toInt ∧ y_109.toInt ≤ 1200 := r_le2 (by decide : (1200 : Int) ≤ (1200 : Int32).toInt ∧ (1200 : Int32).toInt ≤ 1200) b_y_109 n_c_177 (by decide)
        exact hj_40_183 (y_109, f_110) _ _ _ ⟨(show (1 : Int) ≤ y_109.toInt ∧ y_109.toInt ≤ 1200 from (rg_w b_y_109 (by decide) (by decide))), hP, hD, hS, lv_sub hl [0, 1, 2] rfl⟩
      ·
        have n_c_177 : (y_109.toInt : Int) < 1200 := c_nge rfl (by decide) c_177
        have b_y_109 : (0 : Int) ≤ y_109.toInt ∧ y_109.toInt ≤ 1199 := r_lt1 b_y_109 (by decide : (1200 : Int) ≤ (1200 : Int32).toInt ∧ (1200 : Int32).toInt ≤ 1200) n_c_177 (by decide)
        refine lv_aload_n hx hb dX7_append_17 rfl (lv_at hl 1 rfl) ?_
        refine va_get (D := (dC, dI)) (ci := 6) (v := .ref tb) (C := RX7) (T := TX7) (N := 2) hx hb hts iX7_append_X7 hown hK hP 0 rfl rfl 0 (by decide) (hts (.fieldLink RX7 9 "LuckyTicket$Tape" "bytes" "[B") (List.mem_of_getElem? (i := 2) rfl)) (fun _ h9 => h9) rfl dX7_append_18 ?_
        refine lv_aload_n hx hb dX7_append_21 rfl (lv_at hl 1 rfl) ?_
        refine va_get (D := (dC, dI)) (ci := 6) (v := .int y_109) (C := RX7) (T := TX7) (N := 2) hx hb hts iX7_append_X7 hown hK hP 0 rfl rfl 1 (by decide) (hts (.fieldLink RX7 13 "LuckyTicket$Tape" "size" "I") (List.mem_of_getElem? (i := 1) rfl)) (fun _ h9 => h9) rfl dX7_append_22 ?_
        refine lv_iload_n hx hb dX7_append_25 rfl (lv_at hl 2 rfl) ?_
        refine lv_iload_n hx hb dX7_append_26 rfl (lv_at hl 0 rfl) ?_
        obtain ⟨z_185, e_z_185⟩ : ∃ y : Int32, y = ((a1 : Int32).toUInt32 >>> ((y_108 : Int32).toUInt32 &&& Int32.toUInt32 31)).toInt32 := ⟨_, rfl⟩
        refine lv_iushr (v := z_185) hx hb dX7_append_27 e_z_185.symm ?_
        obtain ⟨z_186, e_z_186⟩ : ∃ y : Int32, y = z_185.toInt8.toInt32 := ⟨_, rfl⟩
        refine lv_i2b (v := z_186) hx hb dX7_append_28 e_z_186.symm ?_
        refine va_bast hx hb hK hP hD hS 1 0 rfl rfl (vp_in_b b_y_109 (by decide) (by decide)) dX7_append_29 (fun H locs hP hD hS => ?_)
        have hP : va_P (dC, dI) vwCl [(tp, .inr (6, [.ref tb, .int y_109])), (tb, .inl (cB, 1200, .inl (upd f_110 (y_109 : Int32).toNatClampNeg (vp_nar .byte z_186))))] H := hP
        have hD : va_D A [(tp, .inr (6, [.ref tb, .int y_109])), (tb, .inl (cB, 1200, .inl (upd f_110 (y_109 : Int32).toNatClampNeg (vp_nar .byte z_186))))] := hD
        generalize (upd f_110 (y_109 : Int32).toNatClampNeg (vp_nar .byte z_186)) = f_187 at hP hD
        have hP : va_P (dC, dI) vwCl [(tp, .inr (6, [.ref tb, .int y_109])), (tb, .inl (cB, 1200, .inl f_187))] H := hP
        have hD : va_D A [(tp, .inr (6, [.ref tb, .int y_109])), (tb, .inl (cB, 1200, .inl f_187))] := hD
        refine lv_aload_n hx hb dX7_append_30 rfl (lv_at hl 1 rfl) ?_
        refine lv_dup hx hb dX7_append_31 rfl ?_
        refine va_get (D := (dC, dI)) (ci := 6) (v := .int y_109) (C := RX7) (T := TX7) (N := 2) hx hb hts iX7_append_X7 hown hK hP 0 rfl rfl 1 (by decide) (hts (.fieldLink RX7 13 "LuckyTicket$Tape" "size" "I") (List.mem_of_getElem? (i := 1) rfl)) (fun _ h9 => h9) rfl dX7_append_32 ?_
        refine lv_iconst (v := 1) hx hb dX7_append_35 (by decide) ?_
        refine lv_iadd hx hb dX7_append_36 ?_
        refine lv_topi (fun z_188 e_z_188 => ?_)
        obtain ⟨q_z_188, b_z_188⟩ := ti_add (lo := 1) (hi := 1200) e_z_188 rfl (by decide : (1 : Int32).toInt = 1) b_y_109 (by decide : (1 : Int) ≤ (1 : Int32).toInt ∧ (1 : Int32).toInt ≤ 1) (by decide)
        refine va_put (D := (dC, dI)) (ci := 6) (v := .int z_188) (ty := .int) (C := RX7) (T := TX7) (N := 2) hx hb hts iX7_append_X7 tyX7 tyX7_ok nmX7 hown hK hP hD hS 0 rfl rfl 1 (by decide) (hts (.fieldLink RX7 13 "LuckyTicket$Tape" "size" "I") (List.mem_of_getElem? (i := 1) rfl)) (fun _ h9 => h9) rfl (by decide +kernel) rfl rfl (Nat.le_of_ble_eq_true rfl) dX7_append_37 (fun H locs hP hD hS => ?_)
        have hP : va_P (dC, dI) vwCl [(tp, .inr (6, [.ref tb, .int z_188])), (tb, .inl (cB, 1200, .inl f_187))] H := hP
        have hD : va_D A [(tp, .inr (6, [.ref tb, .int z_188])), (tb, .inl (cB, 1200, .inl f_187))] := hD
        exact hj_40_183 (z_188, f_187) _ _ _ ⟨(show (1 : Int) ≤ z_188.toInt ∧ z_188.toInt ≤ 1200 from b_z_188), hP, hD, hS, lv_sub hl [0, 1, 2] rfl⟩
theorem dX9_feed_0 : decode cX9_feed 0 = .ok (.aload_n 0, 1) := by decide +kernel
theorem dX9_feed_1 : decode cX9_feed 1 = .ok (.getfield 10, 3) := by decide +kernel
theorem dX9_feed_4 : decode cX9_feed 4 = .ok (.bipush 20, 2) := by decide +kernel
theorem dX9_feed_6 : decode cX9_feed 6 = .ok (.invokevirtual 72, 3) := by decide +kernel
theorem dX9_feed_9 : decode cX9_feed 9 = .ok (.ifCond .ne 5, 3) := by decide +kernel
theorem dX9_feed_12 : decode cX9_feed 12 = .ok (.iconst (-1), 1) := by decide +kernel
theorem dX9_feed_13 : decode cX9_feed 13 = .ok (.ireturn, 1) := by decide +kernel
theorem dX9_feed_14 : decode cX9_feed 14 = .ok (.aload_n 0, 1) := by decide +kernel
theorem dX9_feed_15 : decode cX9_feed 15 = .ok (.getfield 10, 3) := by decide +kernel
theorem dX9_feed_18 : decode cX9_feed 18 = .ok (.iload_n 1, 1) := by decide +kernel
theorem dX9_feed_19 : decode cX9_feed 19 = .ok (.invokevirtual 76, 3) := by decide +kernel
theorem dX9_feed_22 : decode cX9_feed 22 = .ok (.aload_n 0, 1) := by decide +kernel
theorem dX9_feed_23 : decode cX9_feed 23 = .ok (.getfield 10, 3) := by decide +kernel
theorem dX9_feed_26 : decode cX9_feed 26 = .ok (.iload_n 2, 1) := by decide +kernel
theorem dX9_feed_27 : decode cX9_feed 27 = .ok (.invokevirtual 76, 3) := by decide +kernel
theorem dX9_feed_30 : decode cX9_feed 30 = .ok (.aload_n 0, 1) := by decide +kernel
theorem dX9_feed_31 : decode cX9_feed 31 = .ok (.getfield 10, 3) := by decide +kernel
theorem dX9_feed_34 : decode cX9_feed 34 = .ok (.iload_n 3, 1) := by decide +kernel
theorem dX9_feed_35 : decode cX9_feed 35 = .ok (.invokevirtual 76, 3) := by decide +kernel
theorem dX9_feed_38 : decode cX9_feed 38 = .ok (.aload_n 0, 1) := by decide +kernel
theorem dX9_feed_39 : decode cX9_feed 39 = .ok (.getfield 10, 3) := by decide +kernel
theorem dX9_feed_42 : decode cX9_feed 42 = .ok (.iload 4, 2) := by decide +kernel
theorem dX9_feed_44 : decode cX9_feed 44 = .ok (.invokevirtual 76, 3) := by decide +kernel
theorem dX9_feed_47 : decode cX9_feed 47 = .ok (.aload_n 0, 1) := by decide +kernel
theorem dX9_feed_48 : decode cX9_feed 48 = .ok (.getfield 10, 3) := by decide +kernel
theorem dX9_feed_51 : decode cX9_feed 51 = .ok (.iload 5, 2) := by decide +kernel
theorem dX9_feed_53 : decode cX9_feed 53 = .ok (.invokevirtual 76, 3) := by decide +kernel
theorem dX9_feed_56 : decode cX9_feed 56 = .ok (.aload_n 0, 1) := by decide +kernel
theorem dX9_feed_57 : decode cX9_feed 57 = .ok (.getfield 10, 3) := by decide +kernel
theorem dX9_feed_60 : decode cX9_feed 60 = .ok (.getfield 80, 3) := by decide +kernel
theorem dX9_feed_63 : decode cX9_feed 63 = .ok (.ireturn, 1) := by decide +kernel
theorem hd_yX9_feed : yX9_feed.cls = RX9 ∧ yX9_feed.cls ≠ "java/lang/invoke/MethodHandle" ∧ yX9_feed.cls ≠ "java/lang/invoke/VarHandle" ∧ (parseMethodDescriptor yX9_feed.desc).map (fun d => d.parameters.length) = some 5 := by decide +kernel
def uX9_feed : List Cond := List.cons (.code yX9_feed cX9_feed 6 (some .int)) (HAppend.hAppend ([.fieldLink RX9 10 "LuckyTicket" "tape" "LLuckyTicket$Tape;", .methodLink RX9 72 yX7_hasRoomFor, .instanceMethod yX7_hasRoomFor, .selects RX7 yX7_hasRoomFor yX7_hasRoomFor, .initialized RX7, .methodLink RX9 76 yX7_append, .instanceMethod yX7_append, .selects RX7 yX7_append yX7_append] : List Cond) (HAppend.hAppend uX7_hasRoomFor (HAppend.hAppend uX7_append (HAppend.hAppend wsX90 wsX70))))
theorem iX9_feed_X9 : ∀ w ∈ wsX90, w ∈ uX9_feed := fun _ h => (List.mem_cons_of_mem _ (List.mem_append_right _ (List.mem_append_right _ (List.mem_append_right _ (List.mem_append_left _ h)))))
theorem iX9_feed_X7 : ∀ w ∈ wsX70, w ∈ uX9_feed := fun _ h => (List.mem_cons_of_mem _ (List.mem_append_right _ (List.mem_append_right _ (List.mem_append_right _ (List.mem_append_right _ h)))))
theorem guX9_feed : GU uX9_feed := gu_cons (gu_app (by decide +kernel) (gu_ap guX7_hasRoomFor (gu_ap guX7_append (gu_ap gws_X9 gws_X7))))
theorem gX9_feed__X7_hasRoomFor_V72 : GoodIn uX9_feed (wsV RX9 72 RX7 yX7_hasRoomFor uX7_hasRoomFor) := gin_V (List.mem_of_getElem? (i := 2) rfl) (List.mem_of_getElem? (i := 3) rfl) (List.mem_of_getElem? (i := 4) rfl) (List.mem_of_getElem? (i := 5) rfl) (fun _ h => (List.mem_cons_of_mem _ (List.mem_append_right _ (List.mem_append_left _ h)))) guX7_hasRoomFor
theorem gX9_feed__X7_append_V76 : GoodIn uX9_feed (wsV RX9 76 RX7 yX7_append uX7_append) := gin_V (List.mem_of_getElem? (i := 6) rfl) (List.mem_of_getElem? (i := 7) rfl) (List.mem_of_getElem? (i := 8) rfl) (List.mem_of_getElem? (i := 5) rfl) (fun _ h => (List.mem_cons_of_mem _ (List.mem_append_right _ (List.mem_append_right _ (List.mem_append_left _ h))))) guX7_append
set_option maxHeartbeats 4000000 in
set_option maxRecDepth 100000 in
theorem kX9_feed (l : Launch) (dC : Nat → ClassId) (dI : Nat → Nat → Nat) (h0 : Nat) (sc : Nat) (rd : Nat) (cu : Nat) (im : Nat) (ig : Nat) (sl : Nat) (se : Nat) (sm : Nat) (fc : Nat) (tp : Nat) (tb : Nat) (ts : Int32) (cB : ClassId) (fb : Nat → Int32) (a1 : Int32) (a2 : Int32) (a3 : Int32) (a4 : Int32) (a5 : Int32) (sz : Nat) (b_ts : (0 : Int) ≤ ts.toInt ∧ ts.toInt ≤ 1200) : Met l yX9_feed uX9_feed ({ frames := 1, cells := 0, slots := 0, locals := 22 }) (va_Pc [.ref h0, .int a1, .int a2, .int a3, .int a4, .int a5] (hw (dC, dI) vwCl [(h0, .inr (7, [.ref tp, .ref sc, .ref rd, .ref cu, .ref im, .ref ig, .ref sl, .ref se, .ref sm, .ref fc])), (tp, .inr (6, [.ref tb, .int ts])), (tb, .inl (cB, 1200, .inl fb))] [(cB, .byte)] sz)) (va_Qi (fun (r : Int32) (_ : Unit) => ((-1 : Int) ≤ r.toInt ∧ r.toInt ≤ 1200)) (fun (_ : Unit) t => ∃ (o0_ : Int32) (o1_ : Nat → Int32), ((0 : Int) ≤ o0_.toInt ∧ o0_.toInt ≤ 1200) ∧ va_P (dC, dI) vwCl [(h0, .inr (7, [.ref tp, .ref sc, .ref rd, .ref cu, .ref im, .ref ig, .ref sl, .ref se, .ref sm, .ref fc])), (tp, .inr (6, [.ref tb, .int o0_])), (tb, .inl (cB, 1200, .inl o1_))] t.heap ∧ va_K (dC, dI) vwCl [(cB, .byte)] t ∧ va_D (va_A [(h0, .inr (7, [.ref tp, .ref sc, .ref rd, .ref cu, .ref im, .ref ig, .ref sl, .ref se, .ref sm, .ref fc])), (tp, .inr (6, [.ref tb, .int ts])), (tb, .inl (cB, 1200, .inl fb))] sz) [(h0, .inr (7, [.ref tp, .ref sc, .ref rd, .ref cu, .ref im, .ref ig, .ref sl, .ref se, .ref sm, .ref fc])), (tp, .inr (6, [.ref tb, .int o0_])), (tb, .inl (cB, 1200, .inl o1_))]) (va_A [(h0, .inr (7, [.ref tp, .ref sc, .ref rd, .ref cu, .ref im, .ref ig, .ref sl, .ref se, .ref sm, .ref fc])), (tp, .inr (6, [.ref tb, .int ts])), (tb, .inl (cB, 1200, .inl fb))] sz)) 0 0 (va_A [(h0, .inr (7, [.ref tp, .ref sc, .ref rd, .ref cu, .ref im, .ref ig, .ref sl, .ref se, .ref sm, .ref fc])), (tp, .inr (6, [.ref tb, .int ts])), (tb, .inl (cB, 1200, .inl fb))] sz) := by
  refine Met.ofW (cc := cX9_feed) (maxL := 6) (ret := (some .int)) pn_X9 rfl ?_
  intro p e s m args below meth c s₁ B hml hv
  obtain ⟨rfl, hsz, hP, hK, hD0, hN⟩ := hv
  have hx := B.exec
  have hb := B.bytes
  have hr := B.returns
  have hts := atoms_spec (ws := uX9_feed) B.pre
  have hown : s.vm.findClass RX9 = some m.cls := hown_of B.named rfl
  have hlocks := B.notSynchronized
  subst hsz
  have hD := hD0.self (sz := s.heap.size)
  generalize hAe : va_A [(h0, .inr (7, [.ref tp, .ref sc, .ref rd, .ref cu, .ref im, .ref ig, .ref sl, .ref se, .ref sm, .ref fc])), (tp, .inr (6, [.ref tb, .int ts])), (tb, .inl (cB, 1200, .inl fb))] s.heap.size = A at hD ⊢
  have hA : ∀ q : Nat, s.heap.size ≤ q → A q := fun q h => by rw [← hAe]; exact Or.inr h
  have hS : va_S A s.heap s.heap [] := va_S.rf
  have hP : va_P (dC, dI) vwCl [(h0, .inr (7, [.ref tp, .ref sc, .ref rd, .ref cu, .ref im, .ref ig, .ref sl, .ref se, .ref sm, .ref fc])), (tp, .inr (6, [.ref tb, .int ts])), (tb, .inl (cB, 1200, .inl fb))] s.heap := hP
  have hl := lv_entry ([.ref h0, .int a1, .int a2, .int a3, .int a4, .int a5]) (n := 6) (Nat.le_of_ble_eq_true rfl)
  rw [lg_entry_eq]
  generalize (lg_sl ([.ref h0, .int a1, .int a2, .int a3, .int a4, .int a5]) ++ List.replicate (6 - (lg_sl ([.ref h0, .int a1, .int a2, .int a3, .int a4, .int a5])).length) Slot.unset).toArray = ls at hl ⊢
  have hl : lv_has ls 6 [(0, .ref h0), (1, .int a1), (2, .int a2), (3, .int a3), (4, .int a4), (5, .int a5)] := hl
  refine lv_aload_n hx hb dX9_feed_0 rfl (lv_at hl 0 rfl) ?_
  refine va_get (D := (dC, dI)) (ci := 7) (v := .ref tp) (C := RX9) (T := TX9) (N := 10) hx hb hts iX9_feed_X9 hown hK hP 0 rfl rfl 0 (by decide) (hts (.fieldLink RX9 10 "LuckyTicket" "tape" "LLuckyTicket$Tape;") (List.mem_of_getElem? (i := 1) rfl)) (fun _ h9 => h9) rfl dX9_feed_1 ?_
  refine lv_bipush (v := 20) hx hb dX9_feed_4 (by decide) ?_
  refine vp_callSi (W.runV (As := [.int 20]) (rest := []) ⟨hx, hb, hml, hown, hts⟩ (kX7_hasRoomFor l dC dI tp tb ts 20 b_ts (by decide : (20 : Int) ≤ (20 : Int32).toInt ∧ (20 : Int32).toInt ≤ 20)) (cwV 1 hts gX9_feed__X7_hasRoomFor_V72 rfl rfl rfl hd_yX7_hasRoomFor ⟨lel 1 1 rfl, lel 21 22 rfl⟩) ⟨pw_fb, rcv_X7 hK hP (q0 := 1) rfl, (pw_use hP hK hN [1] rfl [] rfl)⟩ rfl rfl hl.1 rfl (lv_room (Nat.le_of_ble_eq_true rfl)) dX9_feed_6 ⟨lel 0 0 rfl, lel 0 0 rfl⟩) (fun r_24 h_r_24 => ?_)
  obtain ⟨b_r_24, nz_r_24⟩ := h_r_24
  have b_r_24 : (0 : Int) ≤ r_24.toInt ∧ r_24.toInt ≤ 1 := b_r_24
  refine lv_if_ne (tgt := 14) hx hb dX9_feed_9 (by decide) (fun c_25 => ?_) (fun c_25 => ?_)
  ·
    have n_c_25 : (r_24.toInt : Int) ≠ 0 := c_ne rfl (by decide) c_25
    have b_r_24 : (1 : Int) ≤ r_24.toInt ∧ r_24.toInt ≤ 1 := r_ne1 b_r_24 (by decide : (0 : Int) ≤ (0 : Int32).toInt ∧ (0 : Int32).toInt ≤ 0) n_c_25 (by decide)
    obtain ⟨b_ts, g_26⟩ := nz_r_24 c_25
    have lt0_g_26 := (by decide : (20 : Int32).toInt = 20)
    refine lv_aload_n hx hb dX9_feed_14 rfl (lv_at hl 0 rfl) ?_
    refine va_get (D := (dC, dI)) (ci := 7) (v := .ref tp) (C := RX9) (T := TX9) (N := 10) hx hb hts iX9_feed_X9 hown hK hP 0 rfl rfl 0 (by decide) (hts (.fieldLink RX9 10 "LuckyTicket" "tape" "LLuckyTicket$Tape;") (List.mem_of_getElem? (i := 1) rfl)) (fun _ h9 => h9) rfl dX9_feed_15 ?_
    refine lv_iload_n hx hb dX9_feed_18 rfl (lv_at hl 1 rfl) ?_
    have hFc := va_free (wc := [(tp, .inr (6, [.ref tb, .int ts])), (tb, .inl (cB, 1200, .inl fb))]) hD hS hA [1, 2] rfl
    refine va_callv (va_runV (As := [.int a1]) (rest := []) ⟨hx, hb, hml, hown, hts⟩ (kX7_append l dC dI tp tb ts cB fb a1 (s.heap.size) (rg_w b_ts (by decide) (by decide))) (cwV 1 hts gX9_feed__X7_append_V76 rfl rfl rfl hd_yX7_append ⟨lel 1 1 rfl, lel 22 22 rfl⟩) ⟨hw_fb, rcv_X7 hK hP (q0 := 1) rfl, (hw_use hP hD hK hN [1, 2] rfl (by decide) rfl [0] rfl)⟩ rfl rfl hl.1 rfl (lv_room (Nat.le_of_ble_eq_true rfl)) dX9_feed_19 ⟨lel 0 0 rfl, lel 0 0 rfl⟩) hS (fun q _ h => hFc q h) hFc (fun u_28 t H1 locs ht hvm hw_r_27 hB hz1 hk1 hS => ?_)
    obtain ⟨o0_29, o1_30, b_o0_29, hP1, hK1, hD1⟩ := hB
    rw [ht] at hP1
    have hK1 := va_K.moved hvm.symm hK1
    obtain ⟨hP, hD⟩ := va_join (wr := [(h0, .inr (7, [.ref tp, .ref sc, .ref rd, .ref cu, .ref im, .ref ig, .ref sl, .ref se, .ref sm, .ref fc]))]) (w1 := [(tp, .inr (6, [.ref tb, .int o0_29])), (tb, .inl (cB, 1200, .inl o1_30))]) hP hD [1, 2] [0] rfl rfl (by decide) (by decide) hk1 hFc hP1 hD1
    have hK := (hK.sub (tys' := []) [] rfl).app hK1
    generalize H1 = H at hP hS ⊢
    have hP : va_P (dC, dI) vwCl [(h0, .inr (7, [.ref tp, .ref sc, .ref rd, .ref cu, .ref im, .ref ig, .ref sl, .ref se, .ref sm, .ref fc])), (tp, .inr (6, [.ref tb, .int o0_29])), (tb, .inl (cB, 1200, .inl o1_30))] H := hP
    have hD : va_D A [(h0, .inr (7, [.ref tp, .ref sc, .ref rd, .ref cu, .ref im, .ref ig, .ref sl, .ref se, .ref sm, .ref fc])), (tp, .inr (6, [.ref tb, .int o0_29])), (tb, .inl (cB, 1200, .inl o1_30))] := hD
    have hK : va_K (dC, dI) vwCl [(cB, .byte)] s := hK
    refine lv_aload_n hx hb dX9_feed_22 rfl (lv_at hl 0 rfl) ?_
    refine va_get (D := (dC, dI)) (ci := 7) (v := .ref tp) (C := RX9) (T := TX9) (N := 10) hx hb hts iX9_feed_X9 hown hK hP 0 rfl rfl 0 (by decide) (hts (.fieldLink RX9 10 "LuckyTicket" "tape" "LLuckyTicket$Tape;") (List.mem_of_getElem? (i := 1) rfl)) (fun _ h9 => h9) rfl dX9_feed_23 ?_
    refine lv_iload_n hx hb dX9_feed_26 rfl (lv_at hl 2 rfl) ?_
    have hFc := va_free (wc := [(tp, .inr (6, [.ref tb, .int o0_29])), (tb, .inl (cB, 1200, .inl o1_30))]) hD hS hA [1, 2] rfl
    refine va_callv (va_runV (As := [.int a2]) (rest := []) ⟨hx, hb, hml, hown, hts⟩ (kX7_append l dC dI tp tb o0_29 cB o1_30 a2 (H.size) b_o0_29) (cwV 1 hts gX9_feed__X7_append_V76 rfl rfl rfl hd_yX7_append ⟨lel 1 1 rfl, lel 22 22 rfl⟩) ⟨hw_fb, rcv_X7 hK hP (q0 := 1) rfl, (hw_use hP hD hK hN [1, 2] rfl (by decide) rfl [0] rfl)⟩ rfl rfl hl.1 rfl (lv_room (Nat.le_of_ble_eq_true rfl)) dX9_feed_27 ⟨lel 0 0 rfl, lel 0 0 rfl⟩) hS (fun q _ h => hFc q h) hFc (fun u_32 t H1 locs ht hvm hw_r_31 hB hz1 hk1 hS => ?_)
    obtain ⟨o0_33, o1_34, b_o0_33, hP1, hK1, hD1⟩ := hB
    rw [ht] at hP1
    have hK1 := va_K.moved hvm.symm hK1
    obtain ⟨hP, hD⟩ := va_join (wr := [(h0, .inr (7, [.ref tp, .ref sc, .ref rd, .ref cu, .ref im, .ref ig, .ref sl, .ref se, .ref sm, .ref fc]))]) (w1 := [(tp, .inr (6, [.ref tb, .int o0_33])), (tb, .inl (cB, 1200, .inl o1_34))]) hP hD [1, 2] [0] rfl rfl (by decide) (by decide) hk1 hFc hP1 hD1
    have hK := (hK.sub (tys' := []) [] rfl).app hK1
    generalize H1 = H at hP hS ⊢
    have hP : va_P (dC, dI) vwCl [(h0, .inr (7, [.ref tp, .ref sc, .ref rd, .ref cu, .ref im, .ref ig, .ref sl, .ref se, .ref sm, .ref fc])), (tp, .inr (6, [.ref tb, .int o0_33])), (tb, .inl (cB, 1200, .inl o1_34))] H := hP
    have hD : va_D A [(h0, .inr (7, [.ref tp, .ref sc, .ref rd, .ref cu, .ref im, .ref ig, .ref sl, .ref se, .ref sm, .ref fc])), (tp, .inr (6, [.ref tb, .int o0_33])), (tb, .inl (cB, 1200, .inl o1_34))] := hD
    have hK : va_K (dC, dI) vwCl [(cB, .byte)] s := hK
    refine lv_aload_n hx hb dX9_feed_30 rfl (lv_at hl 0 rfl) ?_
    refine va_get (D := (dC, dI)) (ci := 7) (v := .ref tp) (C := RX9) (T := TX9) (N := 10) hx hb hts iX9_feed_X9 hown hK hP 0 rfl rfl 0 (by decide) (hts (.fieldLink RX9 10 "LuckyTicket" "tape" "LLuckyTicket$Tape;") (List.mem_of_getElem? (i := 1) rfl)) (fun _ h9 => h9) rfl dX9_feed_31 ?_
    refine lv_iload_n hx hb dX9_feed_34 rfl (lv_at hl 3 rfl) ?_
    have hFc := va_free (wc := [(tp, .inr (6, [.ref tb, .int o0_33])), (tb, .inl (cB, 1200, .inl o1_34))]) hD hS hA [1, 2] rfl
    refine va_callv (va_runV (As := [.int a3]) (rest := []) ⟨hx, hb, hml, hown, hts⟩ (kX7_append l dC dI tp tb o0_33 cB o1_34 a3 (H.size) b_o0_33) (cwV 1 hts gX9_feed__X7_append_V76 rfl rfl rfl hd_yX7_append ⟨lel 1 1 rfl, lel 22 22 rfl⟩) ⟨hw_fb, rcv_X7 hK hP (q0 := 1) rfl, (hw_use hP hD hK hN [1, 2] rfl (by decide) rfl [0] rfl)⟩ rfl rfl hl.1 rfl (lv_room (Nat.le_of_ble_eq_true rfl)) dX9_feed_35 ⟨lel 0 0 rfl, lel 0 0 rfl⟩) hS (fun q _ h => hFc q h) hFc (fun u_36 t H1 locs ht hvm hw_r_35 hB hz1 hk1 hS => ?_)
    obtain ⟨o0_37, o1_38, b_o0_37, hP1, hK1, hD1⟩ := hB
    rw [ht] at hP1
    have hK1 := va_K.moved hvm.symm hK1
    obtain ⟨hP, hD⟩ := va_join (wr := [(h0, .inr (7, [.ref tp, .ref sc, .ref rd, .ref cu, .ref im, .ref ig, .ref sl, .ref se, .ref sm, .ref fc]))]) (w1 := [(tp, .inr (6, [.ref tb, .int o0_37])), (tb, .inl (cB, 1200, .inl o1_38))]) hP hD [1, 2] [0] rfl rfl (by decide) (by decide) hk1 hFc hP1 hD1
    have hK := (hK.sub (tys' := []) [] rfl).app hK1
    generalize H1 = H at hP hS ⊢
    have hP : va_P (dC, dI) vwCl [(h0, .inr (7, [.ref tp, .ref sc, .ref rd, .ref cu, .ref im, .ref ig, .ref sl, .ref se, .ref sm, .ref fc])), (tp, .inr (6, [.ref tb, .int o0_37])), (tb, .inl (cB, 1200, .inl o1_38))] H := hP
    have hD : va_D A [(h0, .inr (7, [.ref tp, .ref sc, .ref rd, .ref cu, .ref im, .ref ig, .ref sl, .ref se, .ref sm, .ref fc])), (tp, .inr (6, [.ref tb, .int o0_37])), (tb, .inl (cB, 1200, .inl o1_38))] := hD
    have hK : va_K (dC, dI) vwCl [(cB, .byte)] s := hK
    refine lv_aload_n hx hb dX9_feed_38 rfl (lv_at hl 0 rfl) ?_
    refine va_get (D := (dC, dI)) (ci := 7) (v := .ref tp) (C := RX9) (T := TX9) (N := 10) hx hb hts iX9_feed_X9 hown hK hP 0 rfl rfl 0 (by decide) (hts (.fieldLink RX9 10 "LuckyTicket" "tape" "LLuckyTicket$Tape;") (List.mem_of_getElem? (i := 1) rfl)) (fun _ h9 => h9) rfl dX9_feed_39 ?_
    refine lv_iload hx hb dX9_feed_42 (lv_at hl 4 rfl) ?_
    have hFc := va_free (wc := [(tp, .inr (6, [.ref tb, .int o0_37])), (tb, .inl (cB, 1200, .inl o1_38))]) hD hS hA [1, 2] rfl
    refine va_callv (va_runV (As := [.int a4]) (rest := []) ⟨hx, hb, hml, hown, hts⟩ (kX7_append l dC dI tp tb o0_37 cB o1_38 a4 (H.size) b_o0_37) (cwV 1 hts gX9_feed__X7_append_V76 rfl rfl rfl hd_yX7_append ⟨lel 1 1 rfl, lel 22 22 rfl⟩) ⟨hw_fb, rcv_X7 hK hP (q0 := 1) rfl, (hw_use hP hD hK hN [1, 2] rfl (by decide) rfl [0] rfl)⟩ rfl rfl hl.1 rfl (lv_room (Nat.le_of_ble_eq_true rfl)) dX9_feed_44 ⟨lel 0 0 rfl, lel 0 0 rfl⟩) hS (fun q _ h => hFc q h) hFc (fun u_40 t H1 locs ht hvm hw_r_39 hB hz1 hk1 hS => ?_)
    obtain ⟨o0_41, o1_42, b_o0_41, hP1, hK1, hD1⟩ := hB
    rw [ht] at hP1
    have hK1 := va_K.moved hvm.symm hK1
    obtain ⟨hP, hD⟩ := va_join (wr := [(h0, .inr (7, [.ref tp, .ref sc, .ref rd, .ref cu, .ref im, .ref ig, .ref sl, .ref se, .ref sm, .ref fc]))]) (w1 := [(tp, .inr (6, [.ref tb, .int o0_41])), (tb, .inl (cB, 1200, .inl o1_42))]) hP hD [1, 2] [0] rfl rfl (by decide) (by decide) hk1 hFc hP1 hD1
    have hK := (hK.sub (tys' := []) [] rfl).app hK1
    generalize H1 = H at hP hS ⊢
    have hP : va_P (dC, dI) vwCl [(h0, .inr (7, [.ref tp, .ref sc, .ref rd, .ref cu, .ref im, .ref ig, .ref sl, .ref se, .ref sm, .ref fc])), (tp, .inr (6, [.ref tb, .int o0_41])), (tb, .inl (cB, 1200, .inl o1_42))] H := hP
    have hD : va_D A [(h0, .inr (7, [.ref tp, .ref sc, .ref rd, .ref cu, .ref im, .ref ig, .ref sl, .ref se, .ref sm, .ref fc])), (tp, .inr (6, [.ref tb, .int o0_41])), (tb, .inl (cB, 1200, .inl o1_42))] := hD
    have hK : va_K (dC, dI) vwCl [(cB, .byte)] s := hK
    refine lv_aload_n hx hb dX9_feed_47 rfl (lv_at hl 0 rfl) ?_
    refine va_get (D := (dC, dI)) (ci := 7) (v := .ref tp) (C := RX9) (T := TX9) (N := 10) hx hb hts iX9_feed_X9 hown hK hP 0 rfl rfl 0 (by decide) (hts (.fieldLink RX9 10 "LuckyTicket" "tape" "LLuckyTicket$Tape;") (List.mem_of_getElem? (i := 1) rfl)) (fun _ h9 => h9) rfl dX9_feed_48 ?_
    refine lv_iload hx hb dX9_feed_51 (lv_at hl 5 rfl) ?_
    have hFc := va_free (wc := [(tp, .inr (6, [.ref tb, .int o0_41])), (tb, .inl (cB, 1200, .inl o1_42))]) hD hS hA [1, 2] rfl
    refine va_callv (va_runV (As := [.int a5]) (rest := []) ⟨hx, hb, hml, hown, hts⟩ (kX7_append l dC dI tp tb o0_41 cB o1_42 a5 (H.size) b_o0_41) (cwV 1 hts gX9_feed__X7_append_V76 rfl rfl rfl hd_yX7_append ⟨lel 1 1 rfl, lel 22 22 rfl⟩) ⟨hw_fb, rcv_X7 hK hP (q0 := 1) rfl, (hw_use hP hD hK hN [1, 2] rfl (by decide) rfl [0] rfl)⟩ rfl rfl hl.1 rfl (lv_room (Nat.le_of_ble_eq_true rfl)) dX9_feed_53 ⟨lel 0 0 rfl, lel 0 0 rfl⟩) hS (fun q _ h => hFc q h) hFc (fun u_44 t H1 locs ht hvm hw_r_43 hB hz1 hk1 hS => ?_)
    obtain ⟨o0_45, o1_46, b_o0_45, hP1, hK1, hD1⟩ := hB
    rw [ht] at hP1
    have hK1 := va_K.moved hvm.symm hK1
    obtain ⟨hP, hD⟩ := va_join (wr := [(h0, .inr (7, [.ref tp, .ref sc, .ref rd, .ref cu, .ref im, .ref ig, .ref sl, .ref se, .ref sm, .ref fc]))]) (w1 := [(tp, .inr (6, [.ref tb, .int o0_45])), (tb, .inl (cB, 1200, .inl o1_46))]) hP hD [1, 2] [0] rfl rfl (by decide) (by decide) hk1 hFc hP1 hD1
    have hK := (hK.sub (tys' := []) [] rfl).app hK1
    generalize H1 = H at hP hS ⊢
    have hP : va_P (dC, dI) vwCl [(h0, .inr (7, [.ref tp, .ref sc, .ref rd, .ref cu, .ref im, .ref ig, .ref sl, .ref se, .ref sm, .ref fc])), (tp, .inr (6, [.ref tb, .int o0_45])), (tb, .inl (cB, 1200, .inl o1_46))] H := hP
    have hD : va_D A [(h0, .inr (7, [.ref tp, .ref sc, .ref rd, .ref cu, .ref im, .ref ig, .ref sl, .ref se, .ref sm, .ref fc])), (tp, .inr (6, [.ref tb, .int o0_45])), (tb, .inl (cB, 1200, .inl o1_46))] := hD
    have hK : va_K (dC, dI) vwCl [(cB, .byte)] s := hK
    refine lv_aload_n hx hb dX9_feed_56 rfl (lv_at hl 0 rfl) ?_
    refine va_get (D := (dC, dI)) (ci := 7) (v := .ref tp) (C := RX9) (T := TX9) (N := 10) hx hb hts iX9_feed_X9 hown hK hP 0 rfl rfl 0 (by decide) (hts (.fieldLink RX9 10 "LuckyTicket" "tape" "LLuckyTicket$Tape;") (List.mem_of_getElem? (i := 1) rfl)) (fun _ h9 => h9) rfl dX9_feed_57 ?_
    refine va_getN (own := RX9) (index := 80) (ref := RX7) (host := RX9) (D := (dC, dI)) (ci := 6) (v := .int o0_45) (C := RX7) (T := TX7) (N := 2) hx hb hts iX9_feed_X7 hown hK hP 1 rfl rfl 1 (by decide) (va_Nw.use rfl (hN _ (List.mem_of_getElem? (i := 1) rfl))) (fun _ h9 => h9) rfl dX9_feed_60 ?_
    have hP9 := hP.sub (ws' := [(h0, .inr (7, [.ref tp, .ref sc, .ref rd, .ref cu, .ref im, .ref ig, .ref sl, .ref se, .ref sm, .ref fc])), (tp, .inr (6, [.ref tb, .int o0_45])), (tb, .inl (cB, 1200, .inl o1_46))]) [0, 1, 2] rfl
    have hD9 := hD.sub (ws' := [(h0, .inr (7, [.ref tp, .ref sc, .ref rd, .ref cu, .ref im, .ref ig, .ref sl, .ref se, .ref sm, .ref fc])), (tp, .inr (6, [.ref tb, .int o0_45])), (tb, .inl (cB, 1200, .inl o1_46))]) [0, 1, 2] (by decide) rfl
    have hK9 := hK.sub (tys' := [(cB, .byte)]) [0] rfl
    exact W.iret (v := o0_45) hx hb hr (fun t ht hW => ⟨⟨o0_45, (), rfl, (rg_w b_o0_45 (by decide) (by decide)), o0_45, o1_46, b_o0_45, by rw [ht]; exact hP9, va_K.moved hW.alike hK9, hD9⟩, hS.F ht⟩) hS.2.2 dX9_feed_63
  ·
    have n_c_25 : (r_24.toInt : Int) = 0 := c_eq rfl (by decide) c_25
    have b_r_24 : (0 : Int) ≤ r_24.toInt ∧ r_24.toInt ≤ 0 := r_eq1 b_r_24 (by decide : (0 : Int) ≤ (0 : Int32).toInt ∧ (0 : Int32).toInt ≤ 0) n_c_25 (by decide)
    refine lv_iconst (v := (-1)) hx hb dX9_feed_12 (by decide) ?_
    have hP9 := hP.sub (ws' := [(h0, .inr (7, [.ref tp, .ref sc, .ref rd, .ref cu, .ref im, .ref ig, .ref sl, .ref se, .ref sm, .ref fc])), (tp, .inr (6, [.ref tb, .int ts])), (tb, .inl (cB, 1200, .inl fb))]) [0, 1, 2] rfl
    have hD9 := hD.sub (ws' := [(h0, .inr (7, [.ref tp, .ref sc, .ref rd, .ref cu, .ref im, .ref ig, .ref sl, .ref se, .ref sm, .ref fc])), (tp, .inr (6, [.ref tb, .int ts])), (tb, .inl (cB, 1200, .inl fb))]) [0, 1, 2] (by decide) rfl
    have hK9 := hK.sub (tys' := [(cB, .byte)]) [0] rfl
    exact W.iret (v := (-1)) hx hb hr (fun t ht hW => ⟨⟨(-1), (), rfl, (rg_w (by decide : (-1 : Int) ≤ ((-1) : Int32).toInt ∧ ((-1) : Int32).toInt ≤ -1) (by decide) (by decide)), ts, fb, b_ts, by rw [ht]; exact hP9, va_K.moved hW.alike hK9, hD9⟩, hS.F ht⟩) hS.2.2 dX9_feed_13
theorem dX9_end_0 : decode cX9_end 0 = .ok (.iload_n 1, 1) := by decide +kernel
theorem dX9_end_1 : decode cX9_end 1 = .ok (.ifCond .lt 14, 3) := by decide +kernel
theorem dX9_end_4 : decode cX9_end 4 = .ok (.iload_n 1, 1) := by decide +kernel
theorem dX9_end_5 : decode cX9_end 5 = .ok (.aload_n 0, 1) := by decide +kernel
theorem dX9_end_6 : decode cX9_end 6 = .ok (.getfield 10, 3) := by decide +kernel
theorem dX9_end_9 : decode cX9_end 9 = .ok (.getfield 80, 3) := by decide +kernel
theorem dX9_end_12 : decode cX9_end 12 = .ok (.if_icmp .le 5, 3) := by decide +kernel
theorem dX9_end_15 : decode cX9_end 15 = .ok (.iconst (-1), 1) := by decide +kernel
theorem dX9_end_16 : decode cX9_end 16 = .ok (.ireturn, 1) := by decide +kernel
theorem dX9_end_17 : decode cX9_end 17 = .ok (.aload_n 0, 1) := by decide +kernel
theorem dX9_end_18 : decode cX9_end 18 = .ok (.getfield 10, 3) := by decide +kernel
theorem dX9_end_21 : decode cX9_end 21 = .ok (.iload_n 1, 1) := by decide +kernel
theorem dX9_end_22 : decode cX9_end 22 = .ok (.putfield 80, 3) := by decide +kernel
theorem dX9_end_25 : decode cX9_end 25 = .ok (.iload_n 1, 1) := by decide +kernel
theorem dX9_end_26 : decode cX9_end 26 = .ok (.ireturn, 1) := by decide +kernel
theorem hd_yX9_end : yX9_end.cls = RX9 ∧ yX9_end.cls ≠ "java/lang/invoke/MethodHandle" ∧ yX9_end.cls ≠ "java/lang/invoke/VarHandle" ∧ (parseMethodDescriptor yX9_end.desc).map (fun d => d.parameters.length) = some 1 := by decide +kernel
def uX9_end : List Cond := List.cons (.code yX9_end cX9_end 2 (some .int)) (HAppend.hAppend ([.fieldLink RX9 10 "LuckyTicket" "tape" "LLuckyTicket$Tape;"] : List Cond) (HAppend.hAppend wsX90 wsX70))
theorem iX9_end_X9 : ∀ w ∈ wsX90, w ∈ uX9_end := fun _ h => (List.mem_cons_of_mem _ (List.mem_append_right _ (List.mem_append_left _ h)))
theorem iX9_end_X7 : ∀ w ∈ wsX70, w ∈ uX9_end := fun _ h => (List.mem_cons_of_mem _ (List.mem_append_right _ (List.mem_append_right _ h)))
theorem guX9_end : GU uX9_end := gu_cons (gu_app (by decide +kernel) (gu_ap gws_X9 gws_X7))
set_option maxHeartbeats 4000000 in
set_option maxRecDepth 100000 in
theorem kX9_end (l : Launch) (dC : Nat → ClassId) (dI : Nat → Nat → Nat) (h0 : Nat) (sc : Nat) (rd : Nat) (cu : Nat) (im : Nat) (ig : Nat) (sl : Nat) (se : Nat) (sm : Nat) (fc : Nat) (tp : Nat) (tb : Nat) (ts : Int32) (a1 : Int32) (sz : Nat) (b_ts : (0 : Int) ≤ ts.toInt ∧ ts.toInt ≤ 1200) : Met l yX9_end uX9_end ({ frames := 0, cells := 0, slots := 0, locals := 0 }) (va_Pc [.ref h0, .int a1] (hw (dC, dI) vwCl [(h0, .inr (7, [.ref tp, .ref sc, .ref rd, .ref cu, .ref im, .ref ig, .ref sl, .ref se, .ref sm, .ref fc])), (tp, .inr (6, [.ref tb, .int ts]))] [] sz)) (va_Qi (fun (r : Int32) (_ : Unit) => ((-1 : Int) ≤ r.toInt ∧ r.toInt ≤ 1200)) (fun (_ : Unit) t => ∃ (o0_ : Int32), ((0 : Int) ≤ o0_.toInt ∧ o0_.toInt ≤ 1200) ∧ va_P (dC, dI) vwCl [(h0, .inr (7, [.ref tp, .ref sc, .ref rd, .ref cu, .ref im, .ref ig, .ref sl, .ref se, .ref sm, .ref fc])), (tp, .inr (6, [.ref tb, .int o0_]))] t.heap ∧ va_K (dC, dI) vwCl [] t ∧ va_D (va_A [(h0, .inr (7, [.ref tp, .ref sc, .ref rd, .ref cu, .ref im, .ref ig, .ref sl, .ref se, .ref sm, .ref fc])), (tp, .inr (6, [.ref tb, .int ts]))] sz) [(h0, .inr (7, [.ref tp, .ref sc, .ref rd, .ref cu, .ref im, .ref ig, .ref sl, .ref se, .ref sm, .ref fc])), (tp, .inr (6, [.ref tb, .int o0_]))]) (va_A [(h0, .inr (7, [.ref tp, .ref sc, .ref rd, .ref cu, .ref im, .ref ig, .ref sl, .ref se, .ref sm, .ref fc])), (tp, .inr (6, [.ref tb, .int ts]))] sz)) 0 0 (va_A [(h0, .inr (7, [.ref tp, .ref sc, .ref rd, .ref cu, .ref im, .ref ig, .ref sl, .ref se, .ref sm, .ref fc])), (tp, .inr (6, [.ref tb, .int ts]))] sz) := by
  refine Met.ofW (cc := cX9_end) (maxL := 2) (ret := (some .int)) pn_X9 rfl ?_
  intro p e s m args below meth c s₁ B hml hv
  obtain ⟨rfl, hsz, hP, hK, hD0, hN⟩ := hv
  have hx := B.exec
  have hb := B.bytes
  have hr := B.returns
  have hts := atoms_spec (ws := uX9_end) B.pre
  have hown : s.vm.findClass RX9 = some m.cls := hown_of B.named rfl
  have hlocks := B.notSynchronized
  subst hsz
  have hD := hD0.self (sz := s.heap.size)
  generalize hAe : va_A [(h0, .inr (7, [.ref tp, .ref sc, .ref rd, .ref cu, .ref im, .ref ig, .ref sl, .ref se, .ref sm, .ref fc])), (tp, .inr (6, [.ref tb, .int ts]))] s.heap.size = A at hD ⊢
  have hA : ∀ q : Nat, s.heap.size ≤ q → A q := fun q h => by rw [← hAe]; exact Or.inr h
  have hS : va_S A s.heap s.heap [] := va_S.rf
  have hP : va_P (dC, dI) vwCl [(h0, .inr (7, [.ref tp, .ref sc, .ref rd, .ref cu, .ref im, .ref ig, .ref sl, .ref se, .ref sm, .ref fc])), (tp, .inr (6, [.ref tb, .int ts]))] s.heap := hP
  have hl := lv_entry ([.ref h0, .int a1]) (n := 2) (Nat.le_of_ble_eq_true rfl)
  rw [lg_entry_eq]
  generalize (lg_sl ([.ref h0, .int a1]) ++ List.replicate (2 - (lg_sl ([.ref h0, .int a1])).length) Slot.unset).toArray = ls at hl ⊢
  have hl : lv_has ls 2 [(0, .ref h0), (1, .int a1)] := hl
  refine lv_iload_n hx hb dX9_end_0 rfl (lv_at hl 1 rfl) ?_
  refine lv_if_lt (tgt := 15) hx hb dX9_end_1 (by decide) (fun c_3 => ?_) (fun c_3 => ?_)
  ·
    have n_c_3 : (a1.toInt : Int) < 0 := c_lt rfl (by decide) c_3
    have b_a1 : (-2147483648 : Int) ≤ a1.toInt ∧ a1.toInt ≤ -1 := r_lt1 (ti_rng a1) (by decide : (0 : Int) ≤ (0 : Int32).toInt ∧ (0 : Int32).toInt ≤ 0) n_c_3 (by decide)
    refine lv_iconst (v := (-1)) hx hb dX9_end_15 (by decide) ?_
    have hP9 := hP.sub (ws' := [(h0, .inr (7, [.ref tp, .ref sc, .ref rd, .ref cu, .ref im, .ref ig, .ref sl, .ref se, .ref sm, .ref fc])), (tp, .inr (6, [.ref tb, .int ts]))]) [0, 1] rfl
    have hD9 := hD.sub (ws' := [(h0, .inr (7, [.ref tp, .ref sc, .ref rd, .ref cu, .ref im, .ref ig, .ref sl, .ref se, .ref sm, .ref fc])), (tp, .inr (6, [.ref tb, .int ts]))]) [0, 1] (by decide) rfl
    have hK9 := hK.sub (tys' := []) [] rfl
    exact W.iret (v := (-1)) hx hb hr (fun t ht hW => ⟨⟨(-1), (), rfl, (rg_w (by decide : (-1 : Int) ≤ ((-1) : Int32).toInt ∧ ((-1) : Int32).toInt ≤ -1) (by decide) (by decide)), ts, b_ts, by rw [ht]; exact hP9, va_K.moved hW.alike hK9, hD9⟩, hS.F ht⟩) hS.2.2 dX9_end_16
  ·
    have n_c_3 : (0 : Int) ≤ a1.toInt := c_nlt rfl (by decide) c_3
    have b_a1 : (0 : Int) ≤ a1.toInt ∧ a1.toInt ≤ 2147483647 := r_le2 (by decide : (0 : Int) ≤ (0 : Int32).toInt ∧ (0 : Int32).toInt ≤ 0) (ti_rng a1) n_c_3 (by decide)
    refine lv_iload_n hx hb dX9_end_4 rfl (lv_at hl 1 rfl) ?_
    refine lv_aload_n hx hb dX9_end_5 rfl (lv_at hl 0 rfl) ?_
    refine va_get (D := (dC, dI)) (ci := 7) (v := .ref tp) (C := RX9) (T := TX9) (N := 10) hx hb hts iX9_end_X9 hown hK hP 0 rfl rfl 0 (by decide) (hts (.fieldLink RX9 10 "LuckyTicket" "tape" "LLuckyTicket$Tape;") (List.mem_of_getElem? (i := 1) rfl)) (fun _ h9 => h9) rfl dX9_end_6 ?_
    refine va_getN (own := RX9) (index := 80) (ref := RX7) (host := RX9) (D := (dC, dI)) (ci := 6) (v := .int ts) (C := RX7) (T := TX7) (N := 2) hx hb hts iX9_end_X7 hown hK hP 1 rfl rfl 1 (by decide) (va_Nw.use rfl (hN _ (List.mem_of_getElem? (i := 1) rfl))) (fun _ h9 => h9) rfl dX9_end_9 ?_
    refine lv_icmp_le (tgt := 17) hx hb dX9_end_12 (by decide) (fun c_4 => ?_) (fun c_4 => ?_)
    ·
      have n_c_4 : (a1.toInt : Int) ≤ ts.toInt := c_le rfl rfl c_4
      have b_a1 : (0 : Int) ≤ a1.toInt ∧ a1.toInt ≤ 1200 := r_le1 b_a1 b_ts n_c_4 (by decide)
      refine lv_aload_n hx hb dX9_end_17 rfl (lv_at hl 0 rfl) ?_
      refine va_get (D := (dC, dI)) (ci := 7) (v := .ref tp) (C := RX9) (T := TX9) (N := 10) hx hb hts iX9_end_X9 hown hK hP 0 rfl rfl 0 (by decide) (hts (.fieldLink RX9 10 "LuckyTicket" "tape" "LLuckyTicket$Tape;") (List.mem_of_getElem? (i := 1) rfl)) (fun _ h9 => h9) rfl dX9_end_18 ?_
      refine lv_iload_n hx hb dX9_end_21 rfl (lv_at hl 1 rfl) ?_
      refine va_putN (own := RX9) (index := 80) (ref := RX7) (host := RX9) (D := (dC, dI)) (ci := 6) (v := .int a1) (ty := .int) (C := RX7) (T := TX7) (N := 2) hx hb hts iX9_end_X7 tyX7 tyX7_ok nmX7 hown hK hP hD hS 1 rfl rfl 1 (by decide) (va_Nw.use rfl (hN _ (List.mem_of_getElem? (i := 1) rfl))) (fun _ h9 => h9) rfl (by decide +kernel) rfl rfl (Nat.le_of_ble_eq_true rfl) dX9_end_22 (fun H locs hP hD hS => ?_)
      have hP : va_P (dC, dI) vwCl [(h0, .inr (7, [.ref tp, .ref sc, .ref rd, .ref cu, .ref im, .ref ig, .ref sl, .ref se, .ref sm, .ref fc])), (tp, .inr (6, [.ref tb, .int a1]))] H := hP
      have hD : va_D A [(h0, .inr (7, [.ref tp, .ref sc, .ref rd, .ref cu, .ref im, .ref ig, .ref sl, .ref se, .ref sm, .ref fc])), (tp, .inr (6, [.ref tb, .int a1]))] := hD
      refine lv_iload_n hx hb dX9_end_25 rfl (lv_at hl 1 rfl) ?_
      have hP9 := hP.sub (ws' := [(h0, .inr (7, [.ref tp, .ref sc, .ref rd, .ref cu, .ref im, .ref ig, .ref sl, .ref se, .ref sm, .ref fc])), (tp, .inr (6, [.ref tb, .int a1]))]) [0, 1] rfl
      have hD9 := hD.sub (ws' := [(h0, .inr (7, [.ref tp, .ref sc, .ref rd, .ref cu, .ref im, .ref ig, .ref sl, .ref se, .ref sm, .ref fc])), (tp, .inr (6, [.ref tb, .int a1]))]) [0, 1] (by decide) rfl
      have hK9 := hK.sub (tys' := []) [] rfl
      exact W.iret (v := a1) hx hb hr (fun t ht hW => ⟨⟨a1, (), rfl, (rg_w b_a1 (by decide) (by decide)), a1, b_a1, by rw [ht]; exact hP9, va_K.moved hW.alike hK9, hD9⟩, hS.F ht⟩) hS.2.2 dX9_end_26
    ·
      have n_c_4 : (ts.toInt : Int) < a1.toInt := c_nle rfl rfl c_4
      have b_a1 : (1 : Int) ≤ a1.toInt ∧ a1.toInt ≤ 2147483647 := r_lt2 b_ts b_a1 n_c_4 (by decide)
      refine lv_iconst (v := (-1)) hx hb dX9_end_15 (by decide) ?_
      have hP9 := hP.sub (ws' := [(h0, .inr (7, [.ref tp, .ref sc, .ref rd, .ref cu, .ref im, .ref ig, .ref sl, .ref se, .ref sm, .ref fc])), (tp, .inr (6, [.ref tb, .int ts]))]) [0, 1] rfl
      have hD9 := hD.sub (ws' := [(h0, .inr (7, [.ref tp, .ref sc, .ref rd, .ref cu, .ref im, .ref ig, .ref sl, .ref se, .ref sm, .ref fc])), (tp, .inr (6, [.ref tb, .int ts]))]) [0, 1] (by decide) rfl
      have hK9 := hK.sub (tys' := []) [] rfl
      exact W.iret (v := (-1)) hx hb hr (fun t ht hW => ⟨⟨(-1), (), rfl, (rg_w (by decide : (-1 : Int) ≤ ((-1) : Int32).toInt ∧ ((-1) : Int32).toInt ≤ -1) (by decide) (by decide)), ts, b_ts, by rw [ht]; exact hP9, va_K.moved hW.alike hK9, hD9⟩, hS.F ht⟩) hS.2.2 dX9_end_16
theorem dX6_addPlace_0 : decode cX6_addPlace 0 = .ok (.iconst 1, 1) := by decide +kernel
theorem dX6_addPlace_1 : decode cX6_addPlace 1 = .ok (.istore_n 2, 1) := by decide +kernel
theorem dX6_addPlace_2 : decode cX6_addPlace 2 = .ok (.iload_n 2, 1) := by decide +kernel
theorem dX6_addPlace_3 : decode cX6_addPlace 3 = .ok (.sipush 180, 3) := by decide +kernel
theorem dX6_addPlace_6 : decode cX6_addPlace 6 = .ok (.if_icmp .gt 26, 3) := by decide +kernel
theorem dX6_addPlace_9 : decode cX6_addPlace 9 = .ok (.aload_n 0, 1) := by decide +kernel
theorem dX6_addPlace_10 : decode cX6_addPlace 10 = .ok (.getfield 9, 3) := by decide +kernel
theorem dX6_addPlace_13 : decode cX6_addPlace 13 = .ok (.iload_n 2, 1) := by decide +kernel
theorem dX6_addPlace_14 : decode cX6_addPlace 14 = .ok (.dup2, 1) := by decide +kernel
theorem dX6_addPlace_15 : decode cX6_addPlace 15 = .ok (.laload, 1) := by decide +kernel
theorem dX6_addPlace_16 : decode cX6_addPlace 16 = .ok (.aload_n 0, 1) := by decide +kernel
theorem dX6_addPlace_17 : decode cX6_addPlace 17 = .ok (.getfield 9, 3) := by decide +kernel
theorem dX6_addPlace_20 : decode cX6_addPlace 20 = .ok (.iload_n 2, 1) := by decide +kernel
theorem dX6_addPlace_21 : decode cX6_addPlace 21 = .ok (.iconst 1, 1) := by decide +kernel
theorem dX6_addPlace_22 : decode cX6_addPlace 22 = .ok (.isub, 1) := by decide +kernel
theorem dX6_addPlace_23 : decode cX6_addPlace 23 = .ok (.laload, 1) := by decide +kernel
theorem dX6_addPlace_24 : decode cX6_addPlace 24 = .ok (.ladd, 1) := by decide +kernel
theorem dX6_addPlace_25 : decode cX6_addPlace 25 = .ok (.lastore, 1) := by decide +kernel
theorem dX6_addPlace_26 : decode cX6_addPlace 26 = .ok (.iinc 2 1, 3) := by decide +kernel
theorem dX6_addPlace_29 : decode cX6_addPlace 29 = .ok (.goto (-27), 3) := by decide +kernel
theorem dX6_addPlace_32 : decode cX6_addPlace 32 = .ok (.sipush 180, 3) := by decide +kernel
theorem dX6_addPlace_35 : decode cX6_addPlace 35 = .ok (.istore_n 2, 1) := by decide +kernel
theorem dX6_addPlace_36 : decode cX6_addPlace 36 = .ok (.iload_n 2, 1) := by decide +kernel
theorem dX6_addPlace_37 : decode cX6_addPlace 37 = .ok (.iload_n 1, 1) := by decide +kernel
theorem dX6_addPlace_38 : decode cX6_addPlace 38 = .ok (.if_icmp .lt 30, 3) := by decide +kernel
theorem dX6_addPlace_41 : decode cX6_addPlace 41 = .ok (.iload_n 1, 1) := by decide +kernel
theorem dX6_addPlace_42 : decode cX6_addPlace 42 = .ok (.ifCond .le 26, 3) := by decide +kernel
theorem dX6_addPlace_45 : decode cX6_addPlace 45 = .ok (.aload_n 0, 1) := by decide +kernel
theorem dX6_addPlace_46 : decode cX6_addPlace 46 = .ok (.getfield 9, 3) := by decide +kernel
theorem dX6_addPlace_49 : decode cX6_addPlace 49 = .ok (.iload_n 2, 1) := by decide +kernel
theorem dX6_addPlace_50 : decode cX6_addPlace 50 = .ok (.dup2, 1) := by decide +kernel
theorem dX6_addPlace_51 : decode cX6_addPlace 51 = .ok (.laload, 1) := by decide +kernel
theorem dX6_addPlace_52 : decode cX6_addPlace 52 = .ok (.aload_n 0, 1) := by decide +kernel
theorem dX6_addPlace_53 : decode cX6_addPlace 53 = .ok (.getfield 9, 3) := by decide +kernel
theorem dX6_addPlace_56 : decode cX6_addPlace 56 = .ok (.iload_n 2, 1) := by decide +kernel
theorem dX6_addPlace_57 : decode cX6_addPlace 57 = .ok (.iload_n 1, 1) := by decide +kernel
theorem dX6_addPlace_58 : decode cX6_addPlace 58 = .ok (.isub, 1) := by decide +kernel
theorem dX6_addPlace_59 : decode cX6_addPlace 59 = .ok (.laload, 1) := by decide +kernel
theorem dX6_addPlace_60 : decode cX6_addPlace 60 = .ok (.lsub, 1) := by decide +kernel
theorem dX6_addPlace_61 : decode cX6_addPlace 61 = .ok (.lastore, 1) := by decide +kernel
theorem dX6_addPlace_62 : decode cX6_addPlace 62 = .ok (.iinc 2 (-1), 3) := by decide +kernel
theorem dX6_addPlace_65 : decode cX6_addPlace 65 = .ok (.goto (-29), 3) := by decide +kernel
theorem dX6_addPlace_68 : decode cX6_addPlace 68 = .ok (.return_, 1) := by decide +kernel
theorem hd_yX6_addPlace : yX6_addPlace.cls = RX6 ∧ yX6_addPlace.cls ≠ "java/lang/invoke/MethodHandle" ∧ yX6_addPlace.cls ≠ "java/lang/invoke/VarHandle" ∧ (parseMethodDescriptor yX6_addPlace.desc).map (fun d => d.parameters.length) = some 1 := by decide +kernel
def uX6_addPlace : List Cond := List.cons (.code yX6_addPlace cX6_addPlace 3 none) (HAppend.hAppend ([.fieldLink RX6 9 "LuckyTicket$SumTable" "ways" "[J"] : List Cond) wsX60)
theorem iX6_addPlace_X6 : ∀ w ∈ wsX60, w ∈ uX6_addPlace := fun _ h => (List.mem_cons_of_mem _ (List.mem_append_right _ h))
theorem guX6_addPlace : GU uX6_addPlace := gu_cons (gu_app (by decide +kernel) gws_X6)
set_option maxHeartbeats 4000000 in
set_option maxRecDepth 100000 in
theorem kX6_addPlace (l : Launch) (dC : Nat → ClassId) (dI : Nat → Nat → Nat) (sm : Nat) (wy : Nat) (cW : ClassId) (fw : Nat → Int64) (a1 : Int32) (sz : Nat) (b_a1 : (2 : Int) ≤ a1.toInt ∧ a1.toInt ≤ 16) : Met l yX6_addPlace uX6_addPlace ({ frames := 0, cells := 0, slots := 0, locals := 0 }) (va_Pc [.ref sm, .int a1] (hw (dC, dI) vwCl [(sm, .inr (5, [.ref wy])), (wy, .inl (cW, 181, .inr (.inl fw)))] [(cW, .long)] sz)) (va_Qv (fun (_ : Unit) => True) (fun (_ : Unit) t => ∃ (o0_ : Nat → Int64), va_P (dC, dI) vwCl [(sm, .inr (5, [.ref wy])), (wy, .inl (cW, 181, .inr (.inl o0_)))] t.heap ∧ va_K (dC, dI) vwCl [(cW, .long)] t ∧ va_D (va_A [(sm, .inr (5, [.ref wy])), (wy, .inl (cW, 181, .inr (.inl fw)))] sz) [(sm, .inr (5, [.ref wy])), (wy, .inl (cW, 181, .inr (.inl o0_)))]) (va_A [(sm, .inr (5, [.ref wy])), (wy, .inl (cW, 181, .inr (.inl fw)))] sz)) 0 0 (va_A [(sm, .inr (5, [.ref wy])), (wy, .inl (cW, 181, .inr (.inl fw)))] sz) := by
  refine Met.ofW (cc := cX6_addPlace) (maxL := 3) (ret := none) pn_X6 rfl ?_
  intro p e s m args below meth c s₁ B hml hv
  obtain ⟨rfl, hsz, hP, hK, hD0, hN⟩ := hv
  have hx := B.exec
  have hb := B.bytes
  have hr := B.returns
  have hts := atoms_spec (ws := uX6_addPlace) B.pre
  have hown : s.vm.findClass RX6 = some m.cls := hown_of B.named rfl
  have hlocks := B.notSynchronized
  subst hsz
  have hD := hD0.self (sz := s.heap.size)
  generalize hAe : va_A [(sm, .inr (5, [.ref wy])), (wy, .inl (cW, 181, .inr (.inl fw)))] s.heap.size = A at hD ⊢
  have hA : ∀ q : Nat, s.heap.size ≤ q → A q := fun q h => by rw [← hAe]; exact Or.inr h
  have hS : va_S A s.heap s.heap [] := va_S.rf
  have hP : va_P (dC, dI) vwCl [(sm, .inr (5, [.ref wy])), (wy, .inl (cW, 181, .inr (.inl fw)))] s.heap := hP
  have hl := lv_entry ([.ref sm, .int a1]) (n := 3) (Nat.le_of_ble_eq_true rfl)
  rw [lg_entry_eq]
  generalize (lg_sl ([.ref sm, .int a1]) ++ List.replicate (3 - (lg_sl ([.ref sm, .int a1])).length) Slot.unset).toArray = ls at hl ⊢
  have hl : lv_has ls 3 [(0, .ref sm), (1, .int a1)] := hl
  refine lv_iconst (v := 1) hx hb dX6_addPlace_0 (by decide) ?_
  refine lv_istore_n (lv' := [(2, .int 1), (0, .ref sm), (1, .int a1)]) hx hb dX6_addPlace_1 rfl hl (by decide) rfl (fun ls hl => ?_)
  refine loopW (σ := Int32 × (Nat → Int64)) (fun v => (181 - v.1.toInt).toNat) (fun v H locs ls => ((1 : Int) ≤ v.1.toInt ∧ v.1.toInt ≤ 181) ∧ va_P (dC, dI) vwCl [(sm, .inr (5, [.ref wy])), (wy, .inl (cW, 181, .inr (.inl v.2)))] H ∧ va_D A [(sm, .inr (5, [.ref wy])), (wy, .inl (cW, 181, .inr (.inl v.2)))] ∧ va_S A s.heap H locs ∧ lv_has ls 3 [(2, .int v.1), (0, .ref sm), (1, .int a1)]) (fun v H locs ls hI ih_2_403 => ?_) ((1 : Int32), fw) ⟨(show (1 : Int) ≤ (1 : Int32).toInt ∧ (1 : Int32).toInt ≤ 181 from (rg_w (by decide : (1 : Int) ≤ (1 : Int32).toInt ∧ (1 : Int32).toInt ≤ 1) (by decide) (by decide))), hP, hD, hS, lv_sub hl [0, 1, 2] rfl⟩
  obtain ⟨y_241, f_242⟩ := v
  obtain ⟨b_y_241, hP, hD, hS, hl⟩ := hI
  have b_y_241 : (1 : Int) ≤ y_241.toInt ∧ y_241.toInt ≤ 181 := b_y_241
  have hP : va_P (dC, dI) vwCl [(sm, .inr (5, [.ref wy])), (wy, .inl (cW, 181, .inr (.inl f_242)))] H := hP
  have hD : va_D A [(sm, .inr (5, [.ref wy])), (wy, .inl (cW, 181, .inr (.inl f_242)))] := hD
  have hl : lv_has ls 3 [(2, .int y_241), (0, .ref sm), (1, .int a1)] := hl
  refine lv_iload_n hx hb dX6_addPlace_2 rfl (lv_at hl 0 rfl) ?_
  refine lv_sipush (v := 180) hx hb dX6_addPlace_3 (by decide) ?_
  refine lv_icmp_gt (tgt := 32) hx hb dX6_addPlace_6 (by decide) (fun c_404 => ?_) (fun c_404 => ?_)
  ·
    have n_c_404 : (180 : Int) < y_241.toInt := c_gt rfl (by decide) c_404
    have b_y_241 : (181 : Int) ≤ y_241.toInt ∧ y_241.toInt ≤ 181 := r_lt2 (by decide : (180 : Int) ≤ (180 : Int32).toInt ∧ (180 : Int32).toInt ≤ 180) b_y_241 n_c_404 (by decide)
    refine lv_sipush (v := 180) hx hb dX6_addPlace_32 (by decide) ?_
    refine lv_istore_n (lv' := [(2, .int 180), (0, .ref sm), (1, .int a1)]) hx hb dX6_addPlace_35 rfl hl (by decide) rfl (fun ls hl => ?_)
    refine loopW (σ := Int32 × (Nat → Int64)) (fun v => (v.1.toInt - 1).toNat) (fun v H locs ls => ((1 : Int) ≤ v.1.toInt ∧ v.1.toInt ≤ 180) ∧ va_P (dC, dI) vwCl [(sm, .inr (5, [.ref wy])), (wy, .inl (cW, 181, .inr (.inl v.2)))] H ∧ va_D A [(sm, .inr (5, [.ref wy])), (wy, .inl (cW, 181, .inr (.inl v.2)))] ∧ va_S A s.heap H locs ∧ lv_has ls 3 [(2, .int v.1), (0, .ref sm), (1, .int a1)]) (fun v H locs ls hI ih_36_452 => ?_) ((180 : Int32), f_242) ⟨(show (1 : Int) ≤ (180 : Int32).toInt ∧ (180 : Int32).toInt ≤ 180 from (rg_w (by decide : (180 : Int) ≤ (180 : Int32).toInt ∧ (180 : Int32).toInt ≤ 180) (by decide) (by decide))), hP, hD, hS, lv_sub hl [0, 1, 2] rfl⟩
    obtain ⟨y_419, f_420⟩ := v
    obtain ⟨b_y_419, hP, hD, hS, hl⟩ := hI
    have b_y_419 : (1 : Int) ≤ y_419.toInt ∧ y_419.toInt ≤ 180 := b_y_419
    have hP : va_P (dC, dI) vwCl [(sm, .inr (5, [.ref wy])), (wy, .inl (cW, 181, .inr (.inl f_420)))] H := hP
    have hD : va_D A [(sm, .inr (5, [.ref wy])), (wy, .inl (cW, 181, .inr (.inl f_420)))] := hD
    have hl : lv_has ls 3 [(2, .int y_419), (0, .ref sm), (1, .int a1)] := hl
    refine lv_iload_n hx hb dX6_addPlace_36 rfl (lv_at hl 0 rfl) ?_
    refine lv_iload_n hx hb dX6_addPlace_37 rfl (lv_at hl 2 rfl) ?_
    refine lv_icmp_lt (tgt := 68) hx hb dX6_addPlace_38 (by decide) (fun c_453 => ?_) (fun c_453 => ?_)
    ·
      have n_c_453 : (y_419.toInt : Int) < a1.toInt := c_lt rfl rfl c_453
      have b_y_419 : (1 : Int) ≤ y_419.toInt ∧ y_419.toInt ≤ 15 := r_lt1 b_y_419 b_a1 n_c_453 (by decide)
      have hP9 := hP.sub (ws' := [(sm, .inr (5, [.ref wy])), (wy, .inl (cW, 181, .inr (.inl f_420)))]) [0, 1] rfl
      have hD9 := hD.sub (ws' := [(sm, .inr (5, [.ref wy])), (wy, .inl (cW, 181, .inr (.inl f_420)))]) [0, 1] (by decide) rfl
      have hK9 := hK.sub (tys' := [(cW, .long)]) [0] rfl
      exact W.vret hx hb hr (fun t ht hW => ⟨⟨(), rfl, trivial, f_420, by rw [ht]; exact hP9, va_K.moved hW.alike hK9, hD9⟩, hS.F ht⟩) hS.2.2 dX6_addPlace_68
    ·
      have n_c_453 : (a1.toInt : Int) ≤ y_419.toInt := c_nlt rfl rfl c_453
      have b_y_419 : (2 : Int) ≤ y_419.toInt ∧ y_419.toInt ≤ 180 := r_le2 b_a1 b_y_419 n_c_453 (by decide)
      refine lv_iload_n hx hb dX6_addPlace_41 rfl (lv_at hl 2 rfl) ?_
      refine lv_if_le (tgt := 68) hx hb dX6_addPlace_42 (by decide) (fun c_454 => absurd (show (a1.toInt : Int) ≤ 0 from c_le rfl (by decide) c_454) (by have q1 := b_a1; have q2 := (by decide : (0 : Int) ≤ (0 : Int32).toInt ∧ (0 : Int32).toInt ≤ 0); omega)) (fun c_454 => ?_)
      refine lv_aload_n hx hb dX6_addPlace_45 rfl (lv_at hl 1 rfl) ?_
      refine va_get (D := (dC, dI)) (ci := 5) (v := .ref wy) (C := RX6) (T := TX6) (N := 1) hx hb hts iX6_addPlace_X6 hown hK hP 0 rfl rfl 0 (by decide) (hts (.fieldLink RX6 9 "LuckyTicket$SumTable" "ways" "[J") (List.mem_of_getElem? (i := 1) rfl)) (fun _ h9 => h9) rfl dX6_addPlace_46 ?_
      refine lv_iload_n hx hb dX6_addPlace_49 rfl (lv_at hl 0 rfl) ?_
      refine lv_dup2_11 hx hb dX6_addPlace_50 rfl rfl ?_
      refine va_lald hx hb hK hP 1 0 rfl rfl (vp_in_b b_y_419 (by decide) (by decide)) dX6_addPlace_51 ?_
      refine lv_topl (fun z_455 e_z_455 => ?_)
      refine lv_aload_n hx hb dX6_addPlace_52 rfl (lv_at hl 1 rfl) ?_
      refine va_get (D := (dC, dI)) (ci := 5) (v := .ref wy) (C := RX6) (T := TX6) (N := 1) hx hb hts iX6_addPlace_X6 hown hK hP 0 rfl rfl 0 (by decide) (hts (.fieldLink RX6 9 "LuckyTicket$SumTable" "ways" "[J") (List.mem_of_getElem? (i := 1) rfl)) (fun _ h9 => h9) rfl dX6_addPlace_53 ?_
      refine lv_iload_n hx hb dX6_addPlace_56 rfl (lv_at hl 0 rfl) ?_
      refine lv_iload_n hx hb dX6_addPlace_57 rfl (lv_at hl 2 rfl) ?_
      refine lv_isub hx hb dX6_addPlace_58 ?_
      refine lv_topi (fun z_456 e_z_456 => ?_)
      obtain ⟨q_z_456, b_z_456⟩ := ti_sub (lo := -14) (hi := 178) e_z_456 rfl rfl b_y_419 b_a1 (by decide)
      refine va_lald hx hb hK hP 1 0 rfl rfl (vp_in_iff.mpr ⟨by omega, by omega⟩) dX6_addPlace_59 ?_
      refine lv_topl (fun z_457 e_z_457 => ?_)
      refine lv_lsub hx hb dX6_addPlace_60 ?_
      refine lv_topl (fun z_458 e_z_458 => ?_)
      refine va_last hx hb hK hP hD hS 1 0 rfl rfl (vp_in_b b_y_419 (by decide) (by decide)) dX6_addPlace_61 (fun H locs hP hD hS => ?_)
      have hP : va_P (dC, dI) vwCl [(sm, .inr (5, [.ref wy])), (wy, .inl (cW, 181, .inr (.inl (vp_updL f_420 (y_419 : Int32).toNatClampNeg z_458))))] H := hP
      have hD : va_D A [(sm, .inr (5, [.ref wy])), (wy, .inl (cW, 181, .inr (.inl (vp_updL f_420 (y_419 : Int32).toNatClampNeg z_458))))] := hD
      generalize (vp_updL f_420 (y_419 : Int32).toNatClampNeg z_458) = f_459 at hP hD
      have hP : va_P (dC, dI) vwCl [(sm, .inr (5, [.ref wy])), (wy, .inl (cW, 181, .inr (.inl f_459)))] H := hP
      have hD : va_D A [(sm, .inr (5, [.ref wy])), (wy, .inl (cW, 181, .inr (.inl f_459)))] := hD
      obtain ⟨z_460, e_z_460⟩ : ∃ y : Int32, y = y_419 + (-1) := ⟨_, rfl⟩
      refine lv_iinc (v := z_460) (lv' := [(2, .int z_460), (0, .ref sm), (1, .int a1)]) hx hb dX6_addPlace_62 hl (k := 0) rfl (by rw [e_z_460]; rfl) (by decide) rfl (fun ls hl => ?_)
      obtain ⟨q_z_460, b_z_460⟩ := ti_add (lo := 1) (hi := 179) e_z_460 rfl (by decide : ((-1) : Int32).toInt = -1) b_y_419 (by decide : (-1 : Int) ≤ ((-1) : Int32).toInt ∧ ((-1) : Int32).toInt ≤ -1) (by decide)
      refine lv_goto (tgt := 36) hx hb dX6_addPlace_65 (by decide) ?_
      exact ih_36_452 (z_460, f_459) _ _ _ ⟨(show (1 : Int) ≤ z_460.toInt ∧ z_460.toInt ≤ 180 from (rg_w b_z_460 (by decide) (by decide))), hP, hD, hS, lv_sub hl [0, 1, 2] rfl⟩ (show (z_460.toInt - 1).toNat < (y_419.toInt - 1).toNat by omega)
  ·
    have n_c_404 : (y_241.toInt : Int) ≤ 180 := c_ngt rfl (by decide) c_404
    have b_y_241 : (1 : Int) ≤ y_241.toInt ∧ y_241.toInt ≤ 180 := r_le1 b_y_241 (by decide : (180 : Int) ≤ (180 : Int32).toInt ∧ (180 : Int32).toInt ≤ 180) n_c_404 (by decide)
    refine lv_aload_n hx hb dX6_addPlace_9 rfl (lv_at hl 1 rfl) ?_
    refine va_get (D := (dC, dI)) (ci := 5) (v := .ref wy) (C := RX6) (T := TX6) (N := 1) hx hb hts iX6_addPlace_X6 hown hK hP 0 rfl rfl 0 (by decide) (hts (.fieldLink RX6 9 "LuckyTicket$SumTable" "ways" "[J") (List.mem_of_getElem? (i := 1) rfl)) (fun _ h9 => h9) rfl dX6_addPlace_10 ?_
    refine lv_iload_n hx hb dX6_addPlace_13 rfl (lv_at hl 0 rfl) ?_
    refine lv_dup2_11 hx hb dX6_addPlace_14 rfl rfl ?_
    refine va_lald hx hb hK hP 1 0 rfl rfl (vp_in_b b_y_241 (by decide) (by decide)) dX6_addPlace_15 ?_
    refine lv_topl (fun z_461 e_z_461 => ?_)
    refine lv_aload_n hx hb dX6_addPlace_16 rfl (lv_at hl 1 rfl) ?_
    refine va_get (D := (dC, dI)) (ci := 5) (v := .ref wy) (C := RX6) (T := TX6) (N := 1) hx hb hts iX6_addPlace_X6 hown hK hP 0 rfl rfl 0 (by decide) (hts (.fieldLink RX6 9 "LuckyTicket$SumTable" "ways" "[J") (List.mem_of_getElem? (i := 1) rfl)) (fun _ h9 => h9) rfl dX6_addPlace_17 ?_
    refine lv_iload_n hx hb dX6_addPlace_20 rfl (lv_at hl 0 rfl) ?_
    refine lv_iconst (v := 1) hx hb dX6_addPlace_21 (by decide) ?_
    refine lv_isub hx hb dX6_addPlace_22 ?_
    refine lv_topi (fun z_462 e_z_462 => ?_)
    obtain ⟨q_z_462, b_z_462⟩ := ti_sub (lo := 0) (hi := 179) e_z_462 rfl (by decide : (1 : Int32).toInt = 1) b_y_241 (by decide : (1 : Int) ≤ (1 : Int32).toInt ∧ (1 : Int32).toInt ≤ 1) (by decide)
    refine va_lald hx hb hK hP 1 0 rfl rfl (vp_in_b b_z_462 (by decide) (by decide)) dX6_addPlace_23 ?_
    refine lv_topl (fun z_463 e_z_463 => ?_)
    refine lv_ladd hx hb dX6_addPlace_24 ?_
    refine lv_topl (fun z_464 e_z_464 => ?_)
    refine va_last hx hb hK hP hD hS 1 0 rfl rfl (vp_in_b b_y_241 (by decide) (by decide)) dX6_addPlace_25 (fun H locs hP hD hS => ?_)
    have hP : va_P (dC, dI) vwCl [(sm, .inr (5, [.ref wy])), (wy, .inl (cW, 181, .inr (.inl (vp_updL f_242 (y_241 : Int32).toNatClampNeg z_464))))] H := hP
    have hD : va_D A [(sm, .inr (5, [.ref wy])), (wy, .inl (cW, 181, .inr (.inl (vp_updL f_242 (y_241 : Int32).toNatClampNeg z_464))))] := hD
    generalize (vp_updL f_242 (y_241 : Int32).toNatClampNeg z_464) = f_465 at hP hD
    have hP : va_P (dC, dI) vwCl [(sm, .inr (5, [.ref wy])), (wy, .inl (cW, 181, .inr (.inl f_465)))] H := hP
    have hD : va_D A [(sm, .inr (5, [.ref wy])), (wy, .inl (cW, 181, .inr (.inl f_465)))] := hD
    obtain ⟨z_466, e_z_466⟩ : ∃ y : Int32, y = y_241 + 1 := ⟨_, rfl⟩
    refine lv_iinc (v := z_466) (lv' := [(2, .int z_466), (0, .ref sm), (1, .int a1)]) hx hb dX6_addPlace_26 hl (k := 0) rfl (by rw [e_z_466]; rfl) (by decide) rfl (fun ls hl => ?_)
    obtain ⟨q_z_466, b_z_466⟩ := ti_add (lo := 2) (hi := 181) e_z_466 rfl (by decide : (1 : Int32).toInt = 1) b_y_241 (by decide : (1 : Int) ≤ (1 : Int32).toInt ∧ (1 : Int32).toInt ≤ 1) (by decide)
    refine lv_goto (tgt := 2) hx hb dX6_addPlace_29 (by decide) ?_
    exact ih_2_403 (z_466, f_465) _ _ _ ⟨(show (1 : Int) ≤ z_466.toInt ∧ z_466.toInt ≤ 181 from (rg_w b_z_466 (by decide) (by decide))), hP, hD, hS, lv_sub hl [0, 1, 2] rfl⟩ (show (181 - z_466.toInt).toNat < (181 - y_241.toInt).toNat by omega)
theorem dX6_fill_0 : decode cX6_fill 0 = .ok (.aload_n 0, 1) := by decide +kernel
theorem dX6_fill_1 : decode cX6_fill 1 = .ok (.getfield 9, 3) := by decide +kernel
theorem dX6_fill_4 : decode cX6_fill 4 = .ok (.lconst 0, 1) := by decide +kernel
theorem dX6_fill_5 : decode cX6_fill 5 = .ok (.invokestatic 13, 3) := by decide +kernel
theorem dX6_fill_8 : decode cX6_fill 8 = .ok (.aload_n 0, 1) := by decide +kernel
theorem dX6_fill_9 : decode cX6_fill 9 = .ok (.getfield 9, 3) := by decide +kernel
theorem dX6_fill_12 : decode cX6_fill 12 = .ok (.iconst 0, 1) := by decide +kernel
theorem dX6_fill_13 : decode cX6_fill 13 = .ok (.lconst 1, 1) := by decide +kernel
theorem dX6_fill_14 : decode cX6_fill 14 = .ok (.lastore, 1) := by decide +kernel
theorem dX6_fill_15 : decode cX6_fill 15 = .ok (.iconst 0, 1) := by decide +kernel
theorem dX6_fill_16 : decode cX6_fill 16 = .ok (.istore_n 3, 1) := by decide +kernel
theorem dX6_fill_17 : decode cX6_fill 17 = .ok (.iload_n 3, 1) := by decide +kernel
theorem dX6_fill_18 : decode cX6_fill 18 = .ok (.iload_n 1, 1) := by decide +kernel
theorem dX6_fill_19 : decode cX6_fill 19 = .ok (.if_icmp .ge 14, 3) := by decide +kernel
theorem dX6_fill_22 : decode cX6_fill 22 = .ok (.aload_n 0, 1) := by decide +kernel
theorem dX6_fill_23 : decode cX6_fill 23 = .ok (.iload_n 2, 1) := by decide +kernel
theorem dX6_fill_24 : decode cX6_fill 24 = .ok (.invokevirtual 19, 3) := by decide +kernel
theorem dX6_fill_27 : decode cX6_fill 27 = .ok (.iinc 3 1, 3) := by decide +kernel
theorem dX6_fill_30 : decode cX6_fill 30 = .ok (.goto (-13), 3) := by decide +kernel
theorem dX6_fill_33 : decode cX6_fill 33 = .ok (.return_, 1) := by decide +kernel
theorem hd_yX6_fill : yX6_fill.cls = RX6 ∧ yX6_fill.cls ≠ "java/lang/invoke/MethodHandle" ∧ yX6_fill.cls ≠ "java/lang/invoke/VarHandle" ∧ (parseMethodDescriptor yX6_fill.desc).map (fun d => d.parameters.length) = some 2 := by decide +kernel
def uX6_fill : List Cond := List.cons (.code yX6_fill cX6_fill 4 none) (HAppend.hAppend ([.fieldLink RX6 9 "LuckyTicket$SumTable" "ways" "[J", .methodLink RX6 13 yJ7_fill_d0a16, .static yJ7_fill_d0a16, .initialized RJ7, .methodLink RX6 19 yX6_addPlace, .instanceMethod yX6_addPlace, .selects RX6 yX6_addPlace yX6_addPlace, .initialized RX6] : List Cond) (HAppend.hAppend uJ7_fill_d0a16 (HAppend.hAppend uX6_addPlace wsX60)))
theorem iX6_fill_X6 : ∀ w ∈ wsX60, w ∈ uX6_fill := fun _ h => (List.mem_cons_of_mem _ (List.mem_append_right _ (List.mem_append_right _ (List.mem_append_right _ h))))
theorem guX6_fill : GU uX6_fill := gu_cons (gu_app (by decide +kernel) (gu_ap guJ7_fill_d0a16 (gu_ap guX6_addPlace gws_X6)))
theorem gX6_fill__J7_fill_d0a16_S13 : GoodIn uX6_fill (va_wsS RX6 13 yJ7_fill_d0a16 uJ7_fill_d0a16) := gin_S (List.mem_of_getElem? (i := 2) rfl) (List.mem_of_getElem? (i := 3) rfl) (List.mem_of_getElem? (i := 4) rfl) (fun _ h => (List.mem_cons_of_mem _ (List.mem_append_right _ (List.mem_append_left _ h)))) guJ7_fill_d0a16
theorem gX6_fill__X6_addPlace_V19 : GoodIn uX6_fill (wsV RX6 19 RX6 yX6_addPlace uX6_addPlace) := gin_V (List.mem_of_getElem? (i := 5) rfl) (List.mem_of_getElem? (i := 6) rfl) (List.mem_of_getElem? (i := 7) rfl) (List.mem_of_getElem? (i := 8) rfl) (fun _ h => (List.mem_cons_of_mem _ (List.mem_append_right _ (List.mem_append_right _ (List.mem_append_left _ h))))) guX6_addPlace
set_option maxHeartbeats 4000000 in
set_option maxRecDepth 100000 in
theorem kX6_fill (l : Launch) (dC : Nat → ClassId) (dI : Nat → Nat → Nat) (sm : Nat) (wy : Nat) (cW : ClassId) (fw : Nat → Int64) (a1 : Int32) (a2 : Int32) (sz : Nat) (b_a1 : (0 : Int) ≤ a1.toInt ∧ a1.toInt ≤ 12) (b_a2 : (2 : Int) ≤ a2.toInt ∧ a2.toInt ≤ 16) : Met l yX6_fill uX6_fill ({ frames := 1, cells := 0, slots := 0, locals := 24 }) (va_Pc [.ref sm, .int a1, .int a2] (hw (dC, dI) vwCl [(sm, .inr (5, [.ref wy])), (wy, .inl (cW, 181, .inr (.inl fw)))] [(cW, .long)] sz)) (va_Qv (fun (_ : Unit) => True) (fun (_ : Unit) t => ∃ (o0_ : Nat → Int64), va_P (dC, dI) vwCl [(sm, .inr (5, [.ref wy])), (wy, .inl (cW, 181, .inr (.inl o0_)))] t.heap ∧ va_K (dC, dI) vwCl [(cW, .long)] t ∧ va_D (va_A [(sm, .inr (5, [.ref wy])), (wy, .inl (cW, 181, .inr (.inl fw)))] sz) [(sm, .inr (5, [.ref wy])), (wy, .inl (cW, 181, .inr (.inl o0_)))]) (va_A [(sm, .inr (5, [.ref wy])), (wy, .inl (cW, 181, .inr (.inl fw)))] sz)) 0 0 (va_A [(sm, .inr (5, [.ref wy])), (wy, .inl (cW, 181, .inr (.inl fw)))] sz) := by
  refine Met.ofW (cc := cX6_fill) (maxL := 4) (ret := none) pn_X6 rfl ?_
  intro p e s m args below meth c s₁ B hml hv
  obtain ⟨rfl, hsz, hP, hK, hD0, hN⟩ := hv
  have hx := B.exec
  have hb := B.bytes
  have hr := B.returns
  have hts := atoms_spec (ws := uX6_fill) B.pre
  have hown : s.vm.findClass RX6 = some m.cls := hown_of B.named rfl
  have hlocks := B.notSynchronized
  subst hsz
  have hD := hD0.self (sz := s.heap.size)
  generalize hAe : va_A [(sm, .inr (5, [.ref wy])), (wy, .inl (cW, 181, .inr (.inl fw)))] s.heap.size = A at hD ⊢
  have hA : ∀ q : Nat, s.heap.size ≤ q → A q := fun q h => by rw [← hAe]; exact Or.inr h
  have hS : va_S A s.heap s.heap [] := va_S.rf
  have hP : va_P (dC, dI) vwCl [(sm, .inr (5, [.ref wy])), (wy, .inl (cW, 181, .inr (.inl fw)))] s.heap := hP
  have hl := lv_entry ([.ref sm, .int a1, .int a2]) (n := 4) (Nat.le_of_ble_eq_true rfl)
  rw [lg_entry_eq]
  generalize (lg_sl ([.ref sm, .int a1, .int a2]) ++ List.replicate (4 - (lg_sl ([.ref sm, .int a1, .int a2])).length) Slot.unset).toArray = ls at hl ⊢
  have hl : lv_has ls 4 [(0, .ref sm), (1, .int a1), (2, .int a2)] := hl
  refine lv_aload_n hx hb dX6_fill_0 rfl (lv_at hl 0 rfl) ?_
  refine va_get (D := (dC, dI)) (ci := 5) (v := .ref wy) (C := RX6) (T := TX6) (N := 1) hx hb hts iX6_fill_X6 hown hK hP 0 rfl rfl 0 (by decide) (hts (.fieldLink RX6 9 "LuckyTicket$SumTable" "ways" "[J") (List.mem_of_getElem? (i := 1) rfl)) (fun _ h9 => h9) rfl dX6_fill_1 ?_
  refine lv_lconst (v := 0) hx hb dX6_fill_4 (by decide) ?_
  have hFc := va_free (wc := [(wy, .inl (cW, 181, .inr (.inl fw)))]) hD hS hA [1] rfl
  refine va_callv (va_runS (As := [.ref wy, .long 0]) (rest := []) ⟨hx, hb, hml, hown, hts⟩ (kJ7_fill_d0a16 l dC dI wy cW 181 fw 0 (s.heap.size) (by omega)) (va_cwS 2 hts gX6_fill__J7_fill_d0a16_S13 rfl rfl rfl hd_yJ7_fill_d0a16.2 ⟨lel 1 1 rfl, lel 24 24 rfl⟩) ⟨hw_fb, (hw_use hP hD hK hN [1] rfl (by decide) rfl [0] rfl)⟩ rfl rfl hl.1 rfl (lv_room (Nat.le_of_ble_eq_true rfl)) dX6_fill_5 ⟨lel 0 0 rfl, lel 0 0 rfl⟩) hS (fun q _ h => hFc q h) hFc (fun u_33 t H1 locs ht hvm hw_r_32 hB hz1 hk1 hS => ?_)
  obtain ⟨o0_34, hP1, hK1, hD1⟩ := hB
  rw [ht] at hP1
  have hK1 := va_K.moved hvm.symm hK1
  obtain ⟨hP, hD⟩ := va_join (wr := [(sm, .inr (5, [.ref wy]))]) (w1 := [(wy, .inl (cW, 181, .inr (.inl o0_34)))]) hP hD [1] [0] rfl rfl (by decide) (by decide) hk1 hFc hP1 hD1
  have hK := (hK.sub (tys' := []) [] rfl).app hK1
  generalize H1 = H at hP hS ⊢
  have hP : va_P (dC, dI) vwCl [(sm, .inr (5, [.ref wy])), (wy, .inl (cW, 181, .inr (.inl o0_34)))] H := hP
  have hD : va_D A [(sm, .inr (5, [.ref wy])), (wy, .inl (cW, 181, .inr (.inl o0_34)))] := hD
  have hK : va_K (dC, dI) vwCl [(cW, .long)] s := hK
  refine lv_aload_n hx hb dX6_fill_8 rfl (lv_at hl 0 rfl) ?_
  refine va_get (D := (dC, dI)) (ci := 5) (v := .ref wy) (C := RX6) (T := TX6) (N := 1) hx hb hts iX6_fill_X6 hown hK hP 0 rfl rfl 0 (by decide) (hts (.fieldLink RX6 9 "LuckyTicket$SumTable" "ways" "[J") (List.mem_of_getElem? (i := 1) rfl)) (fun _ h9 => h9) rfl dX6_fill_9 ?_
  refine lv_iconst (v := 0) hx hb dX6_fill_12 (by decide) ?_
  refine lv_lconst (v := 1) hx hb dX6_fill_13 (by decide) ?_
  refine va_last hx hb hK hP hD hS 1 0 rfl rfl (vp_in_b (by decide : (0 : Int) ≤ (0 : Int32).toInt ∧ (0 : Int32).toInt ≤ 0) (by decide) (by decide)) dX6_fill_14 (fun H locs hP hD hS => ?_)
  have hP : va_P (dC, dI) vwCl [(sm, .inr (5, [.ref wy])), (wy, .inl (cW, 181, .inr (.inl (vp_updL o0_34 (0 : Int32).toNatClampNeg 1))))] H := hP
  have hD : va_D A [(sm, .inr (5, [.ref wy])), (wy, .inl (cW, 181, .inr (.inl (vp_updL o0_34 (0 : Int32).toNatClampNeg 1))))] := hD
  generalize (vp_updL o0_34 (0 : Int32).toNatClampNeg 1) = f_35 at hP hD
  have hP : va_P (dC, dI) vwCl [(sm, .inr (5, [.ref wy])), (wy, .inl (cW, 181, .inr (.inl f_35)))] H := hP
  have hD : va_D A [(sm, .inr (5, [.ref wy])), (wy, .inl (cW, 181, .inr (.inl f_35)))] := hD
  refine lv_iconst (v := 0) hx hb dX6_fill_15 (by decide) ?_
  refine lv_istore_n (lv' := [(3, .int 0), (0, .ref sm), (1, .int a1), (2, .int a2)]) hx hb dX6_fill_16 rfl hl (by decide) rfl (fun ls hl => ?_)
  refine loopW (σ := Int32 × (Nat → Int64)) (fun v => (12 - v.1.toInt).toNat) (fun v H locs ls => ((0 : Int) ≤ v.1.toInt ∧ v.1.toInt ≤ 12) ∧ va_P (dC, dI) vwCl [(sm, .inr (5, [.ref wy])), (wy, .inl (cW, 181, .inr (.inl v.2)))] H ∧ va_D A [(sm, .inr (5, [.ref wy])), (wy, .inl (cW, 181, .inr (.inl v.2)))] ∧ va_S A s.heap H locs ∧ lv_has ls 4 [(3, .int v.1), (0, .ref sm), (1, .int a1), (2, .int a2)]) (fun v H locs ls hI ih_17_57 => ?_) ((0 : Int32), f_35) ⟨(show (0 : Int) ≤ (0 : Int32).toInt ∧ (0 : Int32).toInt ≤ 12 from (rg_w (by decide : (0 : Int) ≤ (0 : Int32).toInt ∧ (0 : Int32).toInt ≤ 0) (by decide) (by decide))), hP, hD, hS, lv_sub hl [0, 1, 2, 3] rfl⟩
  obtain ⟨y_41, f_42⟩ := v
  obtain ⟨b_y_41, hP, hD, hS, hl⟩ := hI
  have b_y_41 : (0 : Int) ≤ y_41.toInt ∧ y_41.toInt ≤ 12 := b_y_41
  have hP : va_P (dC, dI) vwCl [(sm, .inr (5, [.ref wy])), (wy, .inl (cW, 181, .inr (.inl f_42)))] H := hP
  have hD : va_D A [(sm, .inr (5, [.ref wy])), (wy, .inl (cW, 181, .inr (.inl f_42)))] := hD
  have hl : lv_has ls 4 [(3, .int y_41), (0, .ref sm), (1, .int a1), (2, .int a2)] := hl
  refine lv_iload_n hx hb dX6_fill_17 rfl (lv_at hl 0 rfl) ?_
  refine lv_iload_n hx hb dX6_fill_18 rfl (lv_at hl 2 rfl) ?_
  refine lv_icmp_ge (tgt := 33) hx hb dX6_fill_19 (by decide) (fun c_58 => ?_) (fun c_58 => ?_)
  ·
    have n_c_58 : (a1.toInt : Int) ≤ y_41.toInt := c_ge rfl rfl c_58
    have hP9 := hP.sub (ws' := [(sm, .inr (5, [.ref wy])), (wy, .inl (cW, 181, .inr (.inl f_42)))]) [0, 1] rfl
    have hD9 := hD.sub (ws' := [(sm, .inr (5, [.ref wy])), (wy, .inl (cW, 181, .inr (.inl f_42)))]) [0, 1] (by decide) rfl
    have hK9 := hK.sub (tys' := [(cW, .long)]) [0] rfl
    exact W.vret hx hb hr (fun t ht hW => ⟨⟨(), rfl, trivial, f_42, by rw [ht]; exact hP9, va_K.moved hW.alike hK9, hD9⟩, hS.F ht⟩) hS.2.2 dX6_fill_33
  ·
    have n_c_58 : (y_41.toInt : Int) < a1.toInt := c_nge rfl rfl c_58
    have b_y_41 : (0 : Int) ≤ y_41.toInt ∧ y_41.toInt ≤ 11 := r_lt1 b_y_41 b_a1 n_c_58 (by decide)
    have b_a1 : (1 : Int) ≤ a1.toInt ∧ a1.toInt ≤ 12 := r_lt2 b_y_41 b_a1 n_c_58 (by decide)
    refine lv_aload_n hx hb dX6_fill_22 rfl (lv_at hl 1 rfl) ?_
    refine lv_iload_n hx hb dX6_fill_23 rfl (lv_at hl 3 rfl) ?_
    have hFc := va_free (wc := [(sm, .inr (5, [.ref wy])), (wy, .inl (cW, 181, .inr (.inl f_42)))]) hD hS hA [0, 1] rfl
    refine va_callv (va_runV (As := [.int a2]) (rest := []) ⟨hx, hb, hml, hown, hts⟩ (kX6_addPlace l dC dI sm wy cW f_42 a2 (H.size) b_a2) (cwV 1 hts gX6_fill__X6_addPlace_V19 rfl rfl rfl hd_yX6_addPlace ⟨lel 1 1 rfl, lel 22 24 rfl⟩) ⟨hw_fb, rcv_X6 hK hP (q0 := 0) rfl, (hw_use hP hD hK hN [0, 1] rfl (by decide) rfl [0] rfl)⟩ rfl rfl hl.1 rfl (lv_room (Nat.le_of_ble_eq_true rfl)) dX6_fill_24 ⟨lel 0 0 rfl, lel 0 0 rfl⟩) hS (fun q _ h => hFc q h) hFc (fun u_60 t H1 locs ht hvm hw_r_59 hB hz1 hk1 hS => ?_)
    obtain ⟨o0_61, hP1, hK1, hD1⟩ := hB
    rw [ht] at hP1
    have hK1 := va_K.moved hvm.symm hK1
    obtain ⟨hP, hD⟩ := va_join (wr := []) (w1 := [(sm, .inr (5, [.ref wy])), (wy, .inl (cW, 181, .inr (.inl o0_61)))]) hP hD [0, 1] [] rfl rfl (by decide) (by decide) hk1 hFc hP1 hD1
    have hK := (hK.sub (tys' := []) [] rfl).app hK1
    generalize H1 = H at hP hS ⊢
    have hP : va_P (dC, dI) vwCl [(sm, .inr (5, [.ref wy])), (wy, .inl (cW, 181, .inr (.inl o0_61)))] H := hP
    have hD : va_D A [(sm, .inr (5, [.ref wy])), (wy, .inl (cW, 181, .inr (.inl o0_61)))] := hD
    have hK : va_K (dC, dI) vwCl [(cW, .long)] s := hK
    obtain ⟨z_62, e_z_62⟩ : ∃ y : Int32, y = y_41 + 1 := ⟨_, rfl⟩
    refine lv_iinc (v := z_62) (lv' := [(3, .int z_62), (0, .ref sm), (1, .int a1), (2, .int a2)]) hx hb dX6_fill_27 hl (k := 0) rfl (by rw [e_z_62]; rfl) (by decide) rfl (fun ls hl => ?_)
    obtain ⟨q_z_62, b_z_62⟩ := ti_add (lo := 1) (hi := 12) e_z_62 rfl (by decide : (1 : Int32).toInt = 1) b_y_41 (by decide : (1 : Int) ≤ (1 : Int32).toInt ∧ (1 : Int32).toInt ≤ 1) (by decide)
    refine lv_goto (tgt := 17) hx hb dX6_fill_30 (by decide) ?_
    exact ih_17_57 (z_62, o0_61) _ _ _ ⟨(show (0 : Int) ≤ z_62.toInt ∧ z_62.toInt ≤ 12 from (rg_w b_z_62 (by decide) (by decide))), hP, hD, hS, lv_sub hl [0, 1, 2, 3] rfl⟩ (show (12 - z_62.toInt).toNat < (12 - y_41.toInt).toNat by omega)
theorem dX6_waysTo_0 : decode cX6_waysTo 0 = .ok (.iload_n 1, 1) := by decide +kernel
theorem dX6_waysTo_1 : decode cX6_waysTo 1 = .ok (.ifCond .lt 19, 3) := by decide +kernel
theorem dX6_waysTo_4 : decode cX6_waysTo 4 = .ok (.iload_n 1, 1) := by decide +kernel
theorem dX6_waysTo_5 : decode cX6_waysTo 5 = .ok (.sipush 180, 3) := by decide +kernel
theorem dX6_waysTo_8 : decode cX6_waysTo 8 = .ok (.if_icmp .gt 12, 3) := by decide +kernel
theorem dX6_waysTo_11 : decode cX6_waysTo 11 = .ok (.aload_n 0, 1) := by decide +kernel
theorem dX6_waysTo_12 : decode cX6_waysTo 12 = .ok (.getfield 9, 3) := by decide +kernel
theorem dX6_waysTo_15 : decode cX6_waysTo 15 = .ok (.iload_n 1, 1) := by decide +kernel
theorem dX6_waysTo_16 : decode cX6_waysTo 16 = .ok (.laload, 1) := by decide +kernel
theorem dX6_waysTo_17 : decode cX6_waysTo 17 = .ok (.goto 4, 3) := by decide +kernel
theorem dX6_waysTo_20 : decode cX6_waysTo 20 = .ok (.lconst 0, 1) := by decide +kernel
theorem dX6_waysTo_21 : decode cX6_waysTo 21 = .ok (.lreturn, 1) := by decide +kernel
theorem hd_yX6_waysTo : yX6_waysTo.cls = RX6 ∧ yX6_waysTo.cls ≠ "java/lang/invoke/MethodHandle" ∧ yX6_waysTo.cls ≠ "java/lang/invoke/VarHandle" ∧ (parseMethodDescriptor yX6_waysTo.desc).map (fun d => d.parameters.length) = some 1 := by decide +kernel
def uX6_waysTo : List Cond := List.cons (.code yX6_waysTo cX6_waysTo 2 (some .long)) (HAppend.hAppend ([.fieldLink RX6 9 "LuckyTicket$SumTable" "ways" "[J"] : List Cond) wsX60)
theorem iX6_waysTo_X6 : ∀ w ∈ wsX60, w ∈ uX6_waysTo := fun _ h => (List.mem_cons_of_mem _ (List.mem_append_right _ h))
theorem guX6_waysTo : GU uX6_waysTo := gu_cons (gu_app (by decide +kernel) gws_X6)
set_option maxHeartbeats 4000000 in
set_option maxRecDepth 100000 in
theorem kX6_waysTo (l : Launch) (dC : Nat → ClassId) (dI : Nat → Nat → Nat) (sm : Nat) (wy : Nat) (cW : ClassId) (fw : Nat → Int64) (a1 : Int32) : Met l yX6_waysTo uX6_waysTo ({ frames := 0, cells := 0, slots := 0, locals := 0 }) (va_Pc [.ref sm, .int a1] (pw (dC, dI) vwCl [(sm, .inr (5, [.ref wy])), (wy, .inl (cW, 181, .inr (.inl fw)))] [(cW, .long)])) (vp_Sl (fun r => True)) 0 0 (fun _ => False) := by
  refine Met.ofW (cc := cX6_waysTo) (maxL := 2) (ret := (some .long)) pn_X6 rfl ?_
  intro p e s m args below meth c s₁ B hml hv
  obtain ⟨rfl, hP, hK, hN⟩ := hv
  have hx := B.exec
  have hb := B.bytes
  have hr := B.returns
  have hts := atoms_spec (ws := uX6_waysTo) B.pre
  have hown : s.vm.findClass RX6 = some m.cls := hown_of B.named rfl
  have hlocks := B.notSynchronized
  have hl := lv_entry ([.ref sm, .int a1]) (n := 2) (Nat.le_of_ble_eq_true rfl)
  rw [lg_entry_eq]
  generalize (lg_sl ([.ref sm, .int a1]) ++ List.replicate (2 - (lg_sl ([.ref sm, .int a1])).length) Slot.unset).toArray = ls at hl ⊢
  have hl : lv_has ls 2 [(0, .ref sm), (1, .int a1)] := hl
  refine lv_iload_n hx hb dX6_waysTo_0 rfl (lv_at hl 1 rfl) ?_
  refine lv_if_lt (tgt := 20) hx hb dX6_waysTo_1 (by decide) (fun c_4 => ?_) (fun c_4 => ?_)
  ·
    have n_c_4 : (a1.toInt : Int) < 0 := c_lt rfl (by decide) c_4
    have b_a1 : (-2147483648 : Int) ≤ a1.toInt ∧ a1.toInt ≤ -1 := r_lt1 (ti_rng a1) (by decide : (0 : Int) ≤ (0 : Int32).toInt ∧ (0 : Int32).toInt ≤ 0) n_c_4 (by decide)
    refine lv_lconst (v := 0) hx hb dX6_waysTo_20 (by decide) ?_
    exact W.lret (v := 0) hx hb hr (fun t ht hW => ⟨0, rfl, trivial, ht⟩) t_nil dX6_waysTo_21
  ·
    have n_c_4 : (0 : Int) ≤ a1.toInt := c_nlt rfl (by decide) c_4
    have b_a1 : (0 : Int) ≤ a1.toInt ∧ a1.toInt ≤ 2147483647 := r_le2 (by decide : (0 : Int) ≤ (0 : Int32).toInt ∧ (0 : Int32).toInt ≤ 0) (ti_rng a1) n_c_4 (by decide)
    refine lv_iload_n hx hb dX6_waysTo_4 rfl (lv_at hl 1 rfl) ?_
    refine lv_sipush (v := 180) hx hb dX6_waysTo_5 (by decide) ?_
    refine lv_icmp_gt (tgt := 20) hx hb dX6_waysTo_8 (by decide) (fun c_5 => ?_) (fun c_5 => ?_)
    ·
      have n_c_5 : (180 : Int) < a1.toInt := c_gt rfl (by decide) c_5
      have b_a1 : (181 : Int) ≤ a1.toInt ∧ a1.toInt ≤ 2147483647 := r_lt2 (by decide : (180 : Int) ≤ (180 : Int32).toInt ∧ (180 : Int32).toInt ≤ 180) b_a1 n_c_5 (by decide)
      refine lv_lconst (v := 0) hx hb dX6_waysTo_20 (by decide) ?_
      exact W.lret (v := 0) hx hb hr (fun t ht hW => ⟨0, rfl, trivial, ht⟩) t_nil dX6_waysTo_21
    ·
      have n_c_5 : (a1.toInt : Int) ≤ 180 := c_ngt rfl (by decide) c_5
      have b_a1 : (0 : Int) ≤ a1.toInt ∧ a1.toInt ≤ 180 := r_le1 b_a1 (by decide : (180 : Int) ≤ (180 : Int32).toInt ∧ (180 : Int32).toInt ≤ 180) n_c_5 (by decide)
      refine lv_aload_n hx hb dX6_waysTo_11 rfl (lv_at hl 0 rfl) ?_
      refine va_get (D := (dC, dI)) (ci := 5) (v := .ref wy) (C := RX6) (T := TX6) (N := 1) hx hb hts iX6_waysTo_X6 hown hK hP 0 rfl rfl 0 (by decide) (hts (.fieldLink RX6 9 "LuckyTicket$SumTable" "ways" "[J") (List.mem_of_getElem? (i := 1) rfl)) (fun _ h9 => h9) rfl dX6_waysTo_12 ?_
      refine lv_iload_n hx hb dX6_waysTo_15 rfl (lv_at hl 1 rfl) ?_
      refine va_lald hx hb hK hP 1 0 rfl rfl (vp_in_b b_a1 (by decide) (by decide)) dX6_waysTo_16 ?_
      refine lv_topl (fun z_6 e_z_6 => ?_)
      refine lv_goto (tgt := 21) hx hb dX6_waysTo_17 (by decide) ?_
      exact W.lret (v := z_6) hx hb hr (fun t ht hW => ⟨z_6, rfl, trivial, ht⟩) t_nil dX6_waysTo_21
theorem dX9_of_0 : decode cX9_of 0 = .ok (.iload_n 1, 1) := by decide +kernel
theorem dX9_of_1 : decode cX9_of 1 = .ok (.iload_n 2, 1) := by decide +kernel
theorem dX9_of_2 : decode cX9_of 2 = .ok (.invokestatic 318, 3) := by decide +kernel
theorem dX9_of_5 : decode cX9_of 5 = .ok (.ifCond .eq 14, 3) := by decide +kernel
theorem dX9_of_8 : decode cX9_of 8 = .ok (.iload_n 3, 1) := by decide +kernel
theorem dX9_of_9 : decode cX9_of 9 = .ok (.iconst 0, 1) := by decide +kernel
theorem dX9_of_10 : decode cX9_of 10 = .ok (.sipush 180, 3) := by decide +kernel
theorem dX9_of_13 : decode cX9_of 13 = .ok (.invokestatic 158, 3) := by decide +kernel
theorem dX9_of_16 : decode cX9_of 16 = .ok (.ifCond .ne 7, 3) := by decide +kernel
theorem dX9_of_19 : decode cX9_of 19 = .ok (.ldc2_w 265, 3) := by decide +kernel
theorem dX9_of_22 : decode cX9_of 22 = .ok (.lreturn, 1) := by decide +kernel
theorem dX9_of_23 : decode cX9_of 23 = .ok (.aload_n 0, 1) := by decide +kernel
theorem dX9_of_24 : decode cX9_of 24 = .ok (.getfield 64, 3) := by decide +kernel
theorem dX9_of_27 : decode cX9_of 27 = .ok (.iload_n 1, 1) := by decide +kernel
theorem dX9_of_28 : decode cX9_of 28 = .ok (.iload_n 2, 1) := by decide +kernel
theorem dX9_of_29 : decode cX9_of 29 = .ok (.invokevirtual 321, 3) := by decide +kernel
theorem dX9_of_32 : decode cX9_of 32 = .ok (.aload_n 0, 1) := by decide +kernel
theorem dX9_of_33 : decode cX9_of 33 = .ok (.getfield 64, 3) := by decide +kernel
theorem dX9_of_36 : decode cX9_of 36 = .ok (.iload_n 3, 1) := by decide +kernel
theorem dX9_of_37 : decode cX9_of 37 = .ok (.invokevirtual 324, 3) := by decide +kernel
theorem dX9_of_40 : decode cX9_of 40 = .ok (.lreturn, 1) := by decide +kernel
theorem hd_yX9_of : yX9_of.cls = RX9 ∧ yX9_of.cls ≠ "java/lang/invoke/MethodHandle" ∧ yX9_of.cls ≠ "java/lang/invoke/VarHandle" ∧ (parseMethodDescriptor yX9_of.desc).map (fun d => d.parameters.length) = some 3 := by decide +kernel
def uX9_of : List Cond := List.cons (.code yX9_of cX9_of 4 (some .long)) (HAppend.hAppend ([.methodLink RX9 318 yX9_isLong, .static yX9_isLong, .initialized RX9, .constantLong RX9 265 (-2), .methodLink RX9 158 yX9_isWithin, .static yX9_isWithin, .fieldLink RX9 64 "LuckyTicket" "sumTable" "LLuckyTicket$SumTable;", .methodLink RX9 321 yX6_fill, .instanceMethod yX6_fill, .selects RX6 yX6_fill yX6_fill, .initialized RX6, .methodLink RX9 324 yX6_waysTo, .instanceMethod yX6_waysTo, .selects RX6 yX6_waysTo yX6_waysTo] : List Cond) (HAppend.hAppend uX9_isLong (HAppend.hAppend uX9_isWithin (HAppend.hAppend uX6_fill (HAppend.hAppend uX6_waysTo wsX90)))))
theorem iX9_of_X9 : ∀ w ∈ wsX90, w ∈ uX9_of := fun _ h => (List.mem_cons_of_mem _ (List.mem_append_right _ (List.mem_append_right _ (List.mem_append_right _ (List.mem_append_right _ (List.mem_append_right _ h))))))
theorem guX9_of : GU uX9_of := gu_cons (gu_app (by decide +kernel) (gu_ap guX9_isLong (gu_ap guX9_isWithin (gu_ap guX6_fill (gu_ap guX6_waysTo gws_X9)))))
theorem gX9_of__X9_isLong_S318 : GoodIn uX9_of (va_wsS RX9 318 yX9_isLong uX9_isLong) := gin_S (List.mem_of_getElem? (i := 1) rfl) (List.mem_of_getElem? (i := 2) rfl) (List.mem_of_getElem? (i := 3) rfl) (fun _ h => (List.mem_cons_of_mem _ (List.mem_append_right _ (List.mem_append_left _ h)))) guX9_isLong
theorem gX9_of__X9_isWithin_S158 : GoodIn uX9_of (va_wsS RX9 158 yX9_isWithin uX9_isWithin) := gin_S (List.mem_of_getElem? (i := 5) rfl) (List.mem_of_getElem? (i := 6) rfl) (List.mem_of_getElem? (i := 3) rfl) (fun _ h => (List.mem_cons_of_mem _ (List.mem_append_right _ (List.mem_append_right _ (List.mem_append_left _ h))))) guX9_isWithin
theorem gX9_of__X6_fill_V321 : GoodIn uX9_of (wsV RX9 321 RX6 yX6_fill uX6_fill) := gin_V (List.mem_of_getElem? (i := 8) rfl) (List.mem_of_getElem? (i := 9) rfl) (List.mem_of_getElem? (i := 10) rfl) (List.mem_of_getElem? (i := 11) rfl) (fun _ h => (List.mem_cons_of_mem _ (List.mem_append_right _ (List.mem_append_right _ (List.mem_append_right _ (List.mem_append_left _ h)))))) guX6_fill
theorem gX9_of__X6_waysTo_V324 : GoodIn uX9_of (wsV RX9 324 RX6 yX6_waysTo uX6_waysTo) := gin_V (List.mem_of_getElem? (i := 12) rfl) (List.mem_of_getElem? (i := 13) rfl) (List.mem_of_getElem? (i := 14) rfl) (List.mem_of_getElem? (i := 11) rfl) (fun _ h => (List.mem_cons_of_mem _ (List.mem_append_right _ (List.mem_append_right _ (List.mem_append_right _ (List.mem_append_right _ (List.mem_append_left _ h))))))) guX6_waysTo
set_option maxHeartbeats 4000000 in
set_option maxRecDepth 100000 in
theorem kX9_of (l : Launch) (dC : Nat → ClassId) (dI : Nat → Nat → Nat) (h0 : Nat) (tp : Nat) (sc : Nat) (rd : Nat) (cu : Nat) (im : Nat) (ig : Nat) (sl : Nat) (se : Nat) (fc : Nat) (sm : Nat) (wy : Nat) (cW : ClassId) (fw : Nat → Int64) (a1 : Int32) (a2 : Int32) (a3 : Int32) (sz : Nat) : Met l yX9_of uX9_of ({ frames := 2, cells := 0, slots := 0, locals := 47 }) (va_Pc [.ref h0, .int a1, .int a2, .int a3] (hw (dC, dI) vwCl [(h0, .inr (7, [.ref tp, .ref sc, .ref rd, .ref cu, .ref im, .ref ig, .ref sl, .ref se, .ref sm, .ref fc])), (sm, .inr (5, [.ref wy])), (wy, .inl (cW, 181, .inr (.inl fw)))] [(cW, .long)] sz)) (va_Ql (fun (r : Int64) (_ : Unit) => True) (fun (_ : Unit) t => ∃ (o0_ : Nat → Int64), va_P (dC, dI) vwCl [(h0, .inr (7, [.ref tp, .ref sc, .ref rd, .ref cu, .ref im, .ref ig, .ref sl, .ref se, .ref sm, .ref fc])), (sm, .inr (5, [.ref wy])), (wy, .inl (cW, 181, .inr (.inl o0_)))] t.heap ∧ va_K (dC, dI) vwCl [(cW, .long)] t ∧ va_D (va_A [(h0, .inr (7, [.ref tp, .ref sc, .ref rd, .ref cu, .ref im, .ref ig, .ref sl, .ref se, .ref sm, .ref fc])), (sm, .inr (5, [.ref wy])), (wy, .inl (cW, 181, .inr (.inl fw)))] sz) [(h0, .inr (7, [.ref tp, .ref sc, .ref rd, .ref cu, .ref im, .ref ig, .ref sl, .ref se, .ref sm, .ref fc])), (sm, .inr (5, [.ref wy])), (wy, .inl (cW, 181, .inr (.inl o0_)))]) (va_A [(h0, .inr (7, [.ref tp, .ref sc, .ref rd, .ref cu, .ref im, .ref ig, .ref sl, .ref se, .ref sm, .ref fc])), (sm, .inr (5, [.ref wy])), (wy, .inl (cW, 181, .inr (.inl fw)))] sz)) 0 0 (va_A [(h0, .inr (7, [.ref tp, .ref sc, .ref rd, .ref cu, .ref im, .ref ig, .ref sl, .ref se, .ref sm, .ref fc])), (sm, .inr (5, [.ref wy])), (wy, .inl (cW, 181, .inr (.inl fw)))] sz) := by
  refine Met.ofW (cc := cX9_of) (maxL := 4) (ret := (some .long)) pn_X9 rfl ?_
  intro p e s m args below meth c s₁ B hml hv
  obtain ⟨rfl, hsz, hP, hK, hD0, hN⟩ := hv
  have hx := B.exec
  have hb := B.bytes
  have hr := B.returns
  have hts := atoms_spec (ws := uX9_of) B.pre
  have hown : s.vm.findClass RX9 = some m.cls := hown_of B.named rfl
  have hlocks := B.notSynchronized
  subst hsz
  have hD := hD0.self (sz := s.heap.size)
  generalize hAe : va_A [(h0, .inr (7, [.ref tp, .ref sc, .ref rd, .ref cu, .ref im, .ref ig, .ref sl, .ref se, .ref sm, .ref fc])), (sm, .inr (5, [.ref wy])), (wy, .inl (cW, 181, .inr (.inl fw)))] s.heap.size = A at hD ⊢
  have hA : ∀ q : Nat, s.heap.size ≤ q → A q := fun q h => by rw [← hAe]; exact Or.inr h
  have hS : va_S A s.heap s.heap [] := va_S.rf
  have hP : va_P (dC, dI) vwCl [(h0, .inr (7, [.ref tp, .ref sc, .ref rd, .ref cu, .ref im, .ref ig, .ref sl, .ref se, .ref sm, .ref fc])), (sm, .inr (5, [.ref wy])), (wy, .inl (cW, 181, .inr (.inl fw)))] s.heap := hP
  have hl := lv_entry ([.ref h0, .int a1, .int a2, .int a3]) (n := 4) (Nat.le_of_ble_eq_true rfl)
  rw [lg_entry_eq]
  generalize (lg_sl ([.ref h0, .int a1, .int a2, .int a3]) ++ List.replicate (4 - (lg_sl ([.ref h0, .int a1, .int a2, .int a3])).length) Slot.unset).toArray = ls at hl ⊢
  have hl : lv_has ls 4 [(0, .ref h0), (1, .int a1), (2, .int a2), (3, .int a3)] := hl
  refine lv_iload_n hx hb dX9_of_0 rfl (lv_at hl 1 rfl) ?_
  refine lv_iload_n hx hb dX9_of_1 rfl (lv_at hl 2 rfl) ?_
  refine vp_callSi (W.runS (As := [.int a1, .int a2]) (rest := []) ⟨hx, hb, hml, hown, hts⟩ (kX9_isLong l dC dI a1 a2 ) (va_cwS 2 hts gX9_of__X9_isLong_S318 rfl rfl rfl hd_yX9_isLong.2 ⟨lel 2 2 rfl, lel 43 47 rfl⟩) ⟨pn_fb, pn_use⟩ rfl rfl hl.1 rfl (lv_room (Nat.le_of_ble_eq_true rfl)) dX9_of_2 ⟨lel 0 0 rfl, lel 0 0 rfl⟩) (fun r_11 h_r_11 => ?_)
  obtain ⟨b_r_11, nz_r_11⟩ := h_r_11
  have b_r_11 : (0 : Int) ≤ r_11.toInt ∧ r_11.toInt ≤ 1 := b_r_11
  refine lv_if_eq (tgt := 19) hx hb dX9_of_5 (by decide) (fun c_12 => ?_) (fun c_12 => ?_)
  ·
    have n_c_12 : (r_11.toInt : Int) = 0 := c_eq rfl (by decide) c_12
    have b_r_11 : (0 : Int) ≤ r_11.toInt ∧ r_11.toInt ≤ 0 := r_eq1 b_r_11 (by decide : (0 : Int) ≤ (0 : Int32).toInt ∧ (0 : Int32).toInt ≤ 0) n_c_12 (by decide)
    refine lv_ldc2 (v := (-2)) hx hb hown (hts (.constantLong RX9 265 (-2)) (List.mem_of_getElem? (i := 4) rfl)) dX9_of_19 ?_
    have hP9 := hP.sub (ws' := [(h0, .inr (7, [.ref tp, .ref sc, .ref rd, .ref cu, .ref im, .ref ig, .ref sl, .ref se, .ref sm, .ref fc])), (sm, .inr (5, [.ref wy])), (wy, .inl (cW, 181, .inr (.inl fw)))]) [0, 1, 2] rfl
    have hD9 := hD.sub (ws' := [(h0, .inr (7, [.ref tp, .ref sc, .ref rd, .ref cu, .ref im, .ref ig, .ref sl, .ref se, .ref sm, .ref fc])), (sm, .inr (5, [.ref wy])), (wy, .inl (cW, 181, .inr (.inl fw)))]) [0, 1, 2] (by decide) rfl
    have hK9 := hK.sub (tys' := [(cW, .long)]) [0] rfl
    exact W.lret (v := (-2)) hx hb hr (fun t ht hW => ⟨⟨(-2), (), rfl, trivial, fw, by rw [ht]; exact hP9, va_K.moved hW.alike hK9, hD9⟩, hS.F ht⟩) hS.2.2 dX9_of_22
  ·
    have n_c_12 : (r_11.toInt : Int) ≠ 0 := c_ne rfl (by decide) c_12
    have b_r_11 : (1 : Int) ≤ r_11.toInt ∧ r_11.toInt ≤ 1 := r_ne1 b_r_11 (by decide : (0 : Int) ≤ (0 : Int32).toInt ∧ (0 : Int32).toInt ≤ 0) n_c_12 (by decide)
    obtain ⟨b_a1, b_a2, g_13⟩ := nz_r_11 c_12
    refine lv_iload_n hx hb dX9_of_8 rfl (lv_at hl 3 rfl) ?_
    refine lv_iconst (v := 0) hx hb dX9_of_9 (by decide) ?_
    refine lv_sipush (v := 180) hx hb dX9_of_10 (by decide) ?_
    refine vp_callSi (W.runS (As := [.int a3, .int 0, .int 180]) (rest := []) ⟨hx, hb, hml, hown, hts⟩ (kX9_isWithin l dC dI a3 0 180 ) (va_cwS 3 hts gX9_of__X9_isWithin_S158 rfl rfl rfl hd_yX9_isWithin.2 ⟨lel 1 2 rfl, lel 22 47 rfl⟩) ⟨pn_fb, pn_use⟩ rfl rfl hl.1 rfl (lv_room (Nat.le_of_ble_eq_true rfl)) dX9_of_13 ⟨lel 0 0 rfl, lel 0 0 rfl⟩) (fun r_14 h_r_14 => ?_)
    obtain ⟨b_r_14, nz_r_14⟩ := h_r_14
    have b_r_14 : (0 : Int) ≤ r_14.toInt ∧ r_14.toInt ≤ 1 := b_r_14
    refine lv_if_ne (tgt := 23) hx hb dX9_of_16 (by decide) (fun c_15 => ?_) (fun c_15 => ?_)
    ·
      have n_c_15 : (r_14.toInt : Int) ≠ 0 := c_ne rfl (by decide) c_15
      have b_r_14 : (1 : Int) ≤ r_14.toInt ∧ r_14.toInt ≤ 1 := r_ne1 b_r_14 (by decide : (0 : Int) ≤ (0 : Int32).toInt ∧ (0 : Int32).toInt ≤ 0) n_c_15 (by decide)
      have g_16 := nz_r_14 c_15
      have lt0_g_16 := (by decide : (0 : Int32).toInt = 0)
      have lt1_g_16 := (by decide : (180 : Int32).toInt = 180)
      have b_a3 : (0 : Int) ≤ a3.toInt ∧ a3.toInt ≤ 180 := by
        have q0 := (ti_rng a3)
        have q1 := (by decide : (0 : Int) ≤ (0 : Int32).toInt ∧ (0 : Int32).toInt ≤ 0)
        have q2 := (by decide : (180 : Int) ≤ (180 : Int32).toInt ∧ (180 : Int32).toInt ≤ 180)
        omega
      refine lv_aload_n hx hb dX9_of_23 rfl (lv_at hl 0 rfl) ?_
      refine va_get (D := (dC, dI)) (ci := 7) (v := .ref sm) (C := RX9) (T := TX9) (N := 10) hx hb hts iX9_of_X9 hown hK hP 0 rfl rfl 8 (by decide) (hts (.fieldLink RX9 64 "LuckyTicket" "sumTable" "LLuckyTicket$SumTable;") (List.mem_of_getElem? (i := 7) rfl)) (fun _ h9 => h9) rfl dX9_of_24 ?_
      refine lv_iload_n hx hb dX9_of_27 rfl (lv_at hl 1 rfl) ?_
      refine lv_iload_n hx hb dX9_of_28 rfl (lv_at hl 2 rfl) ?_
      have hFc := va_free (wc := [(sm, .inr (5, [.ref wy])), (wy, .inl (cW, 181, .inr (.inl fw)))]) hD hS hA [1, 2] rfl
      refine va_callv (va_runV (As := [.int a1, .int a2]) (rest := []) ⟨hx, hb, hml, hown, hts⟩ (kX6_fill l dC dI sm wy cW fw a1 a2 (s.heap.size) (rg_w b_a1 (by decide) (by decide)) b_a2) (cwV 2 hts gX9_of__X6_fill_V321 rfl rfl rfl hd_yX6_fill ⟨lel 2 2 rfl, lel 47 47 rfl⟩) ⟨hw_fb, rcv_X6 hK hP (q0 := 1) rfl, (hw_use hP hD hK hN [1, 2] rfl (by decide) rfl [0] rfl)⟩ rfl rfl hl.1 rfl (lv_room (Nat.le_of_ble_eq_true rfl)) dX9_of_29 ⟨lel 0 0 rfl, lel 0 0 rfl⟩) hS (fun q _ h => hFc q h) hFc (fun u_18 t H1 locs ht hvm hw_r_17 hB hz1 hk1 hS => ?_)
      obtain ⟨o0_19, hP1, hK1, hD1⟩ := hB
      rw [ht] at hP1
      have hK1 := va_K.moved hvm.symm hK1
      obtain ⟨hP, hD⟩ := va_join (wr := [(h0, .inr (7, [.ref tp, .ref sc, .ref rd, .ref cu, .ref im, .ref ig, .ref sl, .ref se, .ref sm, .ref fc]))]) (w1 := [(sm, .inr (5, [.ref wy])), (wy, .inl (cW, 181, .inr (.inl o0_19)))]) hP hD [1, 2] [0] rfl rfl (by decide) (by decide) hk1 hFc hP1 hD1
      have hK := (hK.sub (tys' := []) [] rfl).app hK1
      generalize H1 = H at hP hS ⊢
      have hP : va_P (dC, dI) vwCl [(h0, .inr (7, [.ref tp, .ref sc, .ref rd, .ref cu, .ref im, .ref ig, .ref sl, .ref se, .ref sm, .ref fc])), (sm, .inr (5, [.ref wy])), (wy, .inl (cW, 181, .inr (.inl o0_19)))] H := hP
      have hD : va_D A [(h0, .inr (7, [.ref tp, .ref sc, .ref rd, .ref cu, .ref im, .ref ig, .ref sl, .ref se, .ref sm, .ref fc])), (sm, .inr (5, [.ref wy])), (wy, .inl (cW, 181, .inr (.inl o0_19)))] := hD
      have hK : va_K (dC, dI) vwCl [(cW, .long)] s := hK
      refine lv_aload_n hx hb dX9_of_32 rfl (lv_at hl 0 rfl) ?_
      refine va_get (D := (dC, dI)) (ci := 7) (v := .ref sm) (C := RX9) (T := TX9) (N := 10) hx hb hts iX9_of_X9 hown hK hP 0 rfl rfl 8 (by decide) (hts (.fieldLink RX9 64 "LuckyTicket" "sumTable" "LLuckyTicket$SumTable;") (List.mem_of_getElem? (i := 7) rfl)) (fun _ h9 => h9) rfl dX9_of_33 ?_
      refine lv_iload_n hx hb dX9_of_36 rfl (lv_at hl 3 rfl) ?_
      refine vp_callSl (W.runV (As := [.int a3]) (rest := []) ⟨hx, hb, hml, hown, hts⟩ (kX6_waysTo l dC dI sm wy cW o0_19 a3 ) (cwV 1 hts gX9_of__X6_waysTo_V324 rfl rfl rfl hd_yX6_waysTo ⟨lel 1 2 rfl, lel 21 47 rfl⟩) ⟨pw_fb, rcv_X6 hK hP (q0 := 1) rfl, (pw_use hP hK hN [1, 2] rfl [0] rfl)⟩ rfl rfl hl.1 rfl (lv_room (Nat.le_of_ble_eq_true rfl)) dX9_of_37 ⟨lel 0 0 rfl, lel 0 0 rfl⟩) (fun r_20 h_r_20 => ?_)
      have hP9 := hP.sub (ws' := [(h0, .inr (7, [.ref tp, .ref sc, .ref rd, .ref cu, .ref im, .ref ig, .ref sl, .ref se, .ref sm, .ref fc])), (sm, .inr (5, [.ref wy])), (wy, .inl (cW, 181, .inr (.inl o0_19)))]) [0, 1, 2] rfl
      have hD9 := hD.sub (ws' := [(h0, .inr (7, [.ref tp, .ref sc, .ref rd, .ref cu, .ref im, .ref ig, .ref sl, .ref se, .ref sm, .ref fc])), (sm, .inr (5, [.ref wy])), (wy, .inl (cW, 181, .inr (.inl o0_19)))]) [0, 1, 2] (by decide) rfl
      have hK9 := hK.sub (tys' := [(cW, .long)]) [0] rfl
      exact W.lret (v := r_20) hx hb hr (fun t ht hW => ⟨⟨r_20, (), rfl, trivial, o0_19, by rw [ht]; exact hP9, va_K.moved hW.alike hK9, hD9⟩, hS.F ht⟩) hS.2.2 dX9_of_40
    ·
      have n_c_15 : (r_14.toInt : Int) = 0 := c_eq rfl (by decide) c_15
      have b_r_14 : (0 : Int) ≤ r_14.toInt ∧ r_14.toInt ≤ 0 := r_eq1 b_r_14 (by decide : (0 : Int) ≤ (0 : Int32).toInt ∧ (0 : Int32).toInt ≤ 0) n_c_15 (by decide)
      refine lv_ldc2 (v := (-2)) hx hb hown (hts (.constantLong RX9 265 (-2)) (List.mem_of_getElem? (i := 4) rfl)) dX9_of_19 ?_
      have hP9 := hP.sub (ws' := [(h0, .inr (7, [.ref tp, .ref sc, .ref rd, .ref cu, .ref im, .ref ig, .ref sl, .ref se, .ref sm, .ref fc])), (sm, .inr (5, [.ref wy])), (wy, .inl (cW, 181, .inr (.inl fw)))]) [0, 1, 2] rfl
      have hD9 := hD.sub (ws' := [(h0, .inr (7, [.ref tp, .ref sc, .ref rd, .ref cu, .ref im, .ref ig, .ref sl, .ref se, .ref sm, .ref fc])), (sm, .inr (5, [.ref wy])), (wy, .inl (cW, 181, .inr (.inl fw)))]) [0, 1, 2] (by decide) rfl
      have hK9 := hK.sub (tys' := [(cW, .long)]) [0] rfl
      exact W.lret (v := (-2)) hx hb hr (fun t ht hW => ⟨⟨(-2), (), rfl, trivial, fw, by rw [ht]; exact hP9, va_K.moved hW.alike hK9, hD9⟩, hS.F ht⟩) hS.2.2 dX9_of_22
theorem dX9_halves_0 : decode cX9_halves 0 = .ok (.iload_n 1, 1) := by decide +kernel
theorem dX9_halves_1 : decode cX9_halves 1 = .ok (.iload_n 2, 1) := by decide +kernel
theorem dX9_halves_2 : decode cX9_halves 2 = .ok (.invokestatic 318, 3) := by decide +kernel
theorem dX9_halves_5 : decode cX9_halves 5 = .ok (.ifCond .eq 9, 3) := by decide +kernel
theorem dX9_halves_8 : decode cX9_halves 8 = .ok (.iload_n 1, 1) := by decide +kernel
theorem dX9_halves_9 : decode cX9_halves 9 = .ok (.iconst 2, 1) := by decide +kernel
theorem dX9_halves_10 : decode cX9_halves 10 = .ok (.irem, 1) := by decide +kernel
theorem dX9_halves_11 : decode cX9_halves 11 = .ok (.ifCond .eq 7, 3) := by decide +kernel
theorem dX9_halves_14 : decode cX9_halves 14 = .ok (.ldc2_w 265, 3) := by decide +kernel
theorem dX9_halves_17 : decode cX9_halves 17 = .ok (.lreturn, 1) := by decide +kernel
theorem dX9_halves_18 : decode cX9_halves 18 = .ok (.aload_n 0, 1) := by decide +kernel
theorem dX9_halves_19 : decode cX9_halves 19 = .ok (.getfield 64, 3) := by decide +kernel
theorem dX9_halves_22 : decode cX9_halves 22 = .ok (.iload_n 1, 1) := by decide +kernel
theorem dX9_halves_23 : decode cX9_halves 23 = .ok (.iconst 2, 1) := by decide +kernel
theorem dX9_halves_24 : decode cX9_halves 24 = .ok (.idiv, 1) := by decide +kernel
theorem dX9_halves_25 : decode cX9_halves 25 = .ok (.iload_n 2, 1) := by decide +kernel
theorem dX9_halves_26 : decode cX9_halves 26 = .ok (.invokevirtual 321, 3) := by decide +kernel
theorem dX9_halves_29 : decode cX9_halves 29 = .ok (.lconst 0, 1) := by decide +kernel
theorem dX9_halves_30 : decode cX9_halves 30 = .ok (.lstore_n 3, 1) := by decide +kernel
theorem dX9_halves_31 : decode cX9_halves 31 = .ok (.iconst 0, 1) := by decide +kernel
theorem dX9_halves_32 : decode cX9_halves 32 = .ok (.istore 5, 2) := by decide +kernel
theorem dX9_halves_34 : decode cX9_halves 34 = .ok (.iload 5, 2) := by decide +kernel
theorem dX9_halves_36 : decode cX9_halves 36 = .ok (.sipush 180, 3) := by decide +kernel
theorem dX9_halves_39 : decode cX9_halves 39 = .ok (.if_icmp .gt 31, 3) := by decide +kernel
theorem dX9_halves_42 : decode cX9_halves 42 = .ok (.lload_n 3, 1) := by decide +kernel
theorem dX9_halves_43 : decode cX9_halves 43 = .ok (.aload_n 0, 1) := by decide +kernel
theorem dX9_halves_44 : decode cX9_halves 44 = .ok (.getfield 64, 3) := by decide +kernel
theorem dX9_halves_47 : decode cX9_halves 47 = .ok (.iload 5, 2) := by decide +kernel
theorem dX9_halves_49 : decode cX9_halves 49 = .ok (.invokevirtual 324, 3) := by decide +kernel
theorem dX9_halves_52 : decode cX9_halves 52 = .ok (.aload_n 0, 1) := by decide +kernel
theorem dX9_halves_53 : decode cX9_halves 53 = .ok (.getfield 64, 3) := by decide +kernel
theorem dX9_halves_56 : decode cX9_halves 56 = .ok (.iload 5, 2) := by decide +kernel
theorem dX9_halves_58 : decode cX9_halves 58 = .ok (.invokevirtual 324, 3) := by decide +kernel
theorem dX9_halves_61 : decode cX9_halves 61 = .ok (.lmul, 1) := by decide +kernel
theorem dX9_halves_62 : decode cX9_halves 62 = .ok (.ladd, 1) := by decide +kernel
theorem dX9_halves_63 : decode cX9_halves 63 = .ok (.lstore_n 3, 1) := by decide +kernel
theorem dX9_halves_64 : decode cX9_halves 64 = .ok (.iinc 5 1, 3) := by decide +kernel
theorem dX9_halves_67 : decode cX9_halves 67 = .ok (.goto (-33), 3) := by decide +kernel
theorem dX9_halves_70 : decode cX9_halves 70 = .ok (.lload_n 3, 1) := by decide +kernel
theorem dX9_halves_71 : decode cX9_halves 71 = .ok (.lreturn, 1) := by decide +kernel
theorem hd_yX9_halves : yX9_halves.cls = RX9 ∧ yX9_halves.cls ≠ "java/lang/invoke/MethodHandle" ∧ yX9_halves.cls ≠ "java/lang/invoke/VarHandle" ∧ (parseMethodDescriptor yX9_halves.desc).map (fun d => d.parameters.length) = some 2 := by decide +kernel
def uX9_halves : List Cond := List.cons (.code yX9_halves cX9_halves 6 (some .long)) (HAppend.hAppend ([.methodLink RX9 318 yX9_isLong, .static yX9_isLong, .initialized RX9, .constantLong RX9 265 (-2), .fieldLink RX9 64 "LuckyTicket" "sumTable" "LLuckyTicket$SumTable;", .methodLink RX9 321 yX6_fill, .instanceMethod yX6_fill, .selects RX6 yX6_fill yX6_fill, .initialized RX6, .methodLink RX9 324 yX6_waysTo, .instanceMethod yX6_waysTo, .selects RX6 yX6_waysTo yX6_waysTo] : List Cond) (HAppend.hAppend uX9_isLong (HAppend.hAppend uX6_fill (HAppend.hAppend uX6_waysTo wsX90))))
theorem iX9_halves_X9 : ∀ w ∈ wsX90, w ∈ uX9_halves := fun _ h => (List.mem_cons_of_mem _ (List.mem_append_right _ (List.mem_append_right _ (List.mem_append_right _ (List.mem_append_right _ h)))))
theorem guX9_halves : GU uX9_halves := gu_cons (gu_app (by decide +kernel) (gu_ap guX9_isLong (gu_ap guX6_fill (gu_ap guX6_waysTo gws_X9))))
theorem gX9_halves__X9_isLong_S318 : GoodIn uX9_halves (va_wsS RX9 318 yX9_isLong uX9_isLong) := gin_S (List.mem_of_getElem? (i := 1) rfl) (List.mem_of_getElem? (i := 2) rfl) (List.mem_of_getElem? (i := 3) rfl) (fun _ h => (List.mem_cons_of_mem _ (List.mem_append_right _ (List.mem_append_left _ h)))) guX9_isLong
theorem gX9_halves__X6_fill_V321 : GoodIn uX9_halves (wsV RX9 321 RX6 yX6_fill uX6_fill) := gin_V (List.mem_of_getElem? (i := 6) rfl) (List.mem_of_getElem? (i := 7) rfl) (List.mem_of_getElem? (i := 8) rfl) (List.mem_of_getElem? (i := 9) rfl) (fun _ h => (List.mem_cons_of_mem _ (List.mem_append_right _ (List.mem_append_right _ (List.mem_append_left _ h))))) guX6_fill
theorem gX9_halves__X6_waysTo_V324 : GoodIn uX9_halves (wsV RX9 324 RX6 yX6_waysTo uX6_waysTo) := gin_V (List.mem_of_getElem? (i := 10) rfl) (List.mem_of_getElem? (i := 11) rfl) (List.mem_of_getElem? (i := 12) rfl) (List.mem_of_getElem? (i := 9) rfl) (fun _ h => (List.mem_cons_of_mem _ (List.mem_append_right _ (List.mem_append_right _ (List.mem_append_right _ (List.mem_append_left _ h)))))) guX6_waysTo
set_option maxHeartbeats 4000000 in
set_option maxRecDepth 100000 in
theorem kX9_halves (l : Launch) (dC : Nat → ClassId) (dI : Nat → Nat → Nat) (h0 : Nat) (tp : Nat) (sc : Nat) (rd : Nat) (cu : Nat) (im : Nat) (ig : Nat) (sl : Nat) (se : Nat) (fc : Nat) (sm : Nat) (wy : Nat) (cW : ClassId) (fw : Nat → Int64) (a1 : Int32) (a2 : Int32) (sz : Nat) : Met l yX9_halves uX9_halves ({ frames := 2, cells := 0, slots := 0, locals := 47 }) (va_Pc [.ref h0, .int a1, .int a2] (hw (dC, dI) vwCl [(h0, .inr (7, [.ref tp, .ref sc, .ref rd, .ref cu, .ref im, .ref ig, .ref sl, .ref se, .ref sm, .ref fc])), (sm, .inr (5, [.ref wy])), (wy, .inl (cW, 181, .inr (.inl fw)))] [(cW, .long)] sz)) (va_Ql (fun (r : Int64) (_ : Unit) => True) (fun (_ : Unit) t => ∃ (o0_ : Nat → Int64), va_P (dC, dI) vwCl [(h0, .inr (7, [.ref tp, .ref sc, .ref rd, .ref cu, .ref im, .ref ig, .ref sl, .ref se, .ref sm, .ref fc])), (sm, .inr (5, [.ref wy])), (wy, .inl (cW, 181, .inr (.inl o0_)))] t.heap ∧ va_K (dC, dI) vwCl [(cW, .long)] t ∧ va_D (va_A [(h0, .inr (7, [.ref tp, .ref sc, .ref rd, .ref cu, .ref im, .ref ig, .ref sl, .ref se, .ref sm, .ref fc])), (sm, .inr (5, [.ref wy])), (wy, .inl (cW, 181, .inr (.inl fw)))] sz) [(h0, .inr (7, [.ref tp, .ref sc, .ref rd, .ref cu, .ref im, .ref ig, .ref sl, .ref se, .ref sm, .ref fc])), (sm, .inr (5, [.ref wy])), (wy, .inl (cW, 181, .inr (.inl o0_)))]) (va_A [(h0, .inr (7, [.ref tp, .ref sc, .ref rd, .ref cu, .ref im, .ref ig, .ref sl, .ref se, .ref sm, .ref fc])), (sm, .inr (5, [.ref wy])), (wy, .inl (cW, 181, .inr (.inl fw)))] sz)) 0 0 (va_A [(h0, .inr (7, [.ref tp, .ref sc, .ref rd, .ref cu, .ref im, .ref ig, .ref sl, .ref se, .ref sm, .ref fc])), (sm, .inr (5, [.ref wy])), (wy, .inl (cW, 181, .inr (.inl fw)))] sz) := by
  refine Met.ofW (cc := cX9_halves) (maxL := 6) (ret := (some .long)) pn_X9 rfl ?_
  intro p e s m args below meth c s₁ B hml hv
  obtain ⟨rfl, hsz, hP, hK, hD0, hN⟩ := hv
  have hx := B.exec
  have hb := B.bytes
  have hr := B.returns
  have hts := atoms_spec (ws := uX9_halves) B.pre
  have hown : s.vm.findClass RX9 = some m.cls := hown_of B.named rfl
  have hlocks := B.notSynchronized
  subst hsz
  have hD := hD0.self (sz := s.heap.size)
  generalize hAe : va_A [(h0, .inr (7, [.ref tp, .ref sc, .ref rd, .ref cu, .ref im, .ref ig, .ref sl, .ref se, .ref sm, .ref fc])), (sm, .inr (5, [.ref wy])), (wy, .inl (cW, 181, .inr (.inl fw)))] s.heap.size = A at hD ⊢
  have hA : ∀ q : Nat, s.heap.size ≤ q → A q := fun q h => by rw [← hAe]; exact Or.inr h
  have hS : va_S A s.heap s.heap [] := va_S.rf
  have hP : va_P (dC, dI) vwCl [(h0, .inr (7, [.ref tp, .ref sc, .ref rd, .ref cu, .ref im, .ref ig, .ref sl, .ref se, .ref sm, .ref fc])), (sm, .inr (5, [.ref wy])), (wy, .inl (cW, 181, .inr (.inl fw)))] s.heap := hP
  have hl := lv_entry ([.ref h0, .int a1, .int a2]) (n := 6) (Nat.le_of_ble_eq_true rfl)
  rw [lg_entry_eq]
  generalize (lg_sl ([.ref h0, .int a1, .int a2]) ++ List.replicate (6 - (lg_sl ([.ref h0, .int a1, .int a2])).length) Slot.unset).toArray = ls at hl ⊢
  have hl : lv_has ls 6 [(0, .ref h0), (1, .int a1), (2, .int a2)] := hl
  refine lv_iload_n hx hb dX9_halves_0 rfl (lv_at hl 1 rfl) ?_
  refine lv_iload_n hx hb dX9_halves_1 rfl (lv_at hl 2 rfl) ?_
  refine vp_callSi (W.runS (As := [.int a1, .int a2]) (rest := []) ⟨hx, hb, hml, hown, hts⟩ (kX9_isLong l dC dI a1 a2 ) (va_cwS 2 hts gX9_halves__X9_isLong_S318 rfl rfl rfl hd_yX9_isLong.2 ⟨lel 2 2 rfl, lel 43 47 rfl⟩) ⟨pn_fb, pn_use⟩ rfl rfl hl.1 rfl (lv_room (Nat.le_of_ble_eq_true rfl)) dX9_halves_2 ⟨lel 0 0 rfl, lel 0 0 rfl⟩) (fun r_66 h_r_66 => ?_)
  obtain ⟨b_r_66, nz_r_66⟩ := h_r_66
  have b_r_66 : (0 : Int) ≤ r_66.toInt ∧ r_66.toInt ≤ 1 := b_r_66
  refine lv_if_eq (tgt := 14) hx hb dX9_halves_5 (by decide) (fun c_67 => ?_) (fun c_67 => ?_)
  ·
    have n_c_67 : (r_66.toInt : Int) = 0 := c_eq rfl (by decide) c_67
    have b_r_66 : (0 : Int) ≤ r_66.toInt ∧ r_66.toInt ≤ 0 := r_eq1 b_r_66 (by decide : (0 : Int) ≤ (0 : Int32).toInt ∧ (0 : Int32).toInt ≤ 0) n_c_67 (by decide)
    refine lv_ldc2 (v := (-2)) hx hb hown (hts (.constantLong RX9 265 (-2)) (List.mem_of_getElem? (i := 4) rfl)) dX9_halves_14 ?_
    have hP9 := hP.sub (ws' := [(h0, .inr (7, [.ref tp, .ref sc, .ref rd, .ref cu, .ref im, .ref ig, .ref sl, .ref se, .ref sm, .ref fc])), (sm, .inr (5, [.ref wy])), (wy, .inl (cW, 181, .inr (.inl fw)))]) [0, 1, 2] rfl
    have hD9 := hD.sub (ws' := [(h0, .inr (7, [.ref tp, .ref sc, .ref rd, .ref cu, .ref im, .ref ig, .ref sl, .ref se, .ref sm, .ref fc])), (sm, .inr (5, [.ref wy])), (wy, .inl (cW, 181, .inr (.inl fw)))]) [0, 1, 2] (by decide) rfl
    have hK9 := hK.sub (tys' := [(cW, .long)]) [0] rfl
    exact W.lret (v := (-2)) hx hb hr (fun t ht hW => ⟨⟨(-2), (), rfl, trivial, fw, by rw [ht]; exact hP9, va_K.moved hW.alike hK9, hD9⟩, hS.F ht⟩) hS.2.2 dX9_halves_17
  ·
    have n_c_67 : (r_66.toInt : Int) ≠ 0 := c_ne rfl (by decide) c_67
    have b_r_66 : (1 : Int) ≤ r_66.toInt ∧ r_66.toInt ≤ 1 := r_ne1 b_r_66 (by decide : (0 : Int) ≤ (0 : Int32).toInt ∧ (0 : Int32).toInt ≤ 0) n_c_67 (by decide)
    obtain ⟨b_a1, b_a2, g_68⟩ := nz_r_66 c_67
    refine lv_iload_n hx hb dX9_halves_8 rfl (lv_at hl 1 rfl) ?_
    refine lv_iconst (v := 2) hx hb dX9_halves_9 (by decide) ?_
    refine lv_irem hx hb dX9_halves_10 (by decide) ?_
    refine lv_topi (fun z_69 e_z_69 => ?_)
    obtain ⟨q_z_69, b_z_69⟩ := ti_rem (hi := 1) e_z_69 rfl (by decide : (2 : Int32).toInt = 2) b_a1 (by decide : (2 : Int) ≤ (2 : Int32).toInt ∧ (2 : Int32).toInt ≤ 2) (by decide)
    refine lv_if_eq (tgt := 18) hx hb dX9_halves_11 (by decide) (fun c_70 => ?_) (fun c_70 => ?_)
    ·
      have n_c_70 : (z_69.toInt : Int) = 0 := c_eq rfl (by decide) c_70
      have b_z_69 : (0 : Int) ≤ z_69.toInt ∧ z_69.toInt ≤ 0 := r_eq1 b_z_69 (by decide : (0 : Int) ≤ (0 : Int32).toInt ∧ (0 : Int32).toInt ≤ 0) n_c_70 (by decide)
      refine lv_aload_n hx hb dX9_halves_18 rfl (lv_at hl 0 rfl) ?_
      refine va_get (D := (dC, dI)) (ci := 7) (v := .ref sm) (C := RX9) (T := TX9) (N := 10) hx hb hts iX9_halves_X9 hown hK hP 0 rfl rfl 8 (by decide) (hts (.fieldLink RX9 64 "LuckyTicket" "sumTable" "LLuckyTicket$SumTable;") (List.mem_of_getElem? (i := 5) rfl)) (fun _ h9 => h9) rfl dX9_halves_19 ?_
      refine lv_iload_n hx hb dX9_halves_22 rfl (lv_at hl 1 rfl) ?_
      refine lv_iconst (v := 2) hx hb dX9_halves_23 (by decide) ?_
      refine lv_idiv hx hb dX9_halves_24 (by decide) ?_
      refine lv_topi (fun z_71 e_z_71 => ?_)
      obtain ⟨q_z_71, b_z_71⟩ := ti_div (hi := 6) e_z_71 rfl (by decide : (2 : Int32).toInt = 2) b_a1 (by decide : (2 : Int) ≤ (2 : Int32).toInt ∧ (2 : Int32).toInt ≤ 2) (by decide)
      refine lv_iload_n hx hb dX9_halves_25 rfl (lv_at hl 2 rfl) ?_
      have hFc := va_free (wc := [(sm, .inr (5, [.ref wy])), (wy, .inl (cW, 181, .inr (.inl fw)))]) hD hS hA [1, 2] rfl
      refine va_callv (va_runV (As := [.int z_71, .int a2]) (rest := []) ⟨hx, hb, hml, hown, hts⟩ (kX6_fill l dC dI sm wy cW fw z_71 a2 (s.heap.size) (rg_w b_z_71 (by decide) (by decide)) b_a2) (cwV 2 hts gX9_halves__X6_fill_V321 rfl rfl rfl hd_yX6_fill ⟨lel 2 2 rfl, lel 47 47 rfl⟩) ⟨hw_fb, rcv_X6 hK hP (q0 := 1) rfl, (hw_use hP hD hK hN [1, 2] rfl (by decide) rfl [0] rfl)⟩ rfl rfl hl.1 rfl (lv_room (Nat.le_of_ble_eq_true rfl)) dX9_halves_26 ⟨lel 0 0 rfl, lel 0 0 rfl⟩) hS (fun q _ h => hFc q h) hFc (fun u_73 t H1 locs ht hvm hw_r_72 hB hz1 hk1 hS => ?_)
      obtain ⟨o0_74, hP1, hK1, hD1⟩ := hB
      rw [ht] at hP1
      have hK1 := va_K.moved hvm.symm hK1
      obtain ⟨hP, hD⟩ := va_join (wr := [(h0, .inr (7, [.ref tp, .ref sc, .ref rd, .ref cu, .ref im, .ref ig, .ref sl, .ref se, .ref sm, .ref fc]))]) (w1 := [(sm, .inr (5, [.ref wy])), (wy, .inl (cW, 181, .inr (.inl o0_74)))]) hP hD [1, 2] [0] rfl rfl (by decide) (by decide) hk1 hFc hP1 hD1
      have hK := (hK.sub (tys' := []) [] rfl).app hK1
      generalize H1 = H at hP hS ⊢
      have hP : va_P (dC, dI) vwCl [(h0, .inr (7, [.ref tp, .ref sc, .ref rd, .ref cu, .ref im, .ref ig, .ref sl, .ref se, .ref sm, .ref fc])), (sm, .inr (5, [.ref wy])), (wy, .inl (cW, 181, .inr (.inl o0_74)))] H := hP
      have hD : va_D A [(h0, .inr (7, [.ref tp, .ref sc, .ref rd, .ref cu, .ref im, .ref ig, .ref sl, .ref se, .ref sm, .ref fc])), (sm, .inr (5, [.ref wy])), (wy, .inl (cW, 181, .inr (.inl o0_74)))] := hD
      have hK : va_K (dC, dI) vwCl [(cW, .long)] s := hK
      refine lv_lconst (v := 0) hx hb dX9_halves_29 (by decide) ?_
      refine lv_lstore_n (lv' := [(3, .long 0), (0, .ref h0), (1, .int a1), (2, .int a2)]) hx hb dX9_halves_30 rfl hl (by decide) rfl (fun ls hl => ?_)
      refine lv_iconst (v := 0) hx hb dX9_halves_31 (by decide) ?_
      refine lv_istore (lv' := [(5, .int 0), (3, .long 0), (0, .ref h0), (1, .int a1), (2, .int a2)]) hx hb dX9_halves_32 hl (by decide) rfl (fun ls hl => ?_)
      refine loopW (σ := Int32 × Int64) (fun v => (181 - v.1.toInt).toNat) (fun v H locs ls => ((0 : Int) ≤ v.1.toInt ∧ v.1.toInt ≤ 181) ∧ va_P (dC, dI) vwCl [(h0, .inr (7, [.ref tp, .ref sc, .ref rd, .ref cu, .ref im, .ref ig, .ref sl, .ref se, .ref sm, .ref fc])), (sm, .inr (5, [.ref wy])), (wy, .inl (cW, 181, .inr (.inl o0_74)))] H ∧ va_D A [(h0, .inr (7, [.ref tp, .ref sc, .ref rd, .ref cu, .ref im, .ref ig, .ref sl, .ref se, .ref sm, .ref fc])), (sm, .inr (5, [.ref wy])), (wy, .inl (cW, 181, .inr (.inl o0_74)))] ∧ va_S A s.heap H locs ∧ lv_has ls 6 [(5, .int v.1), (3, .long v.2), (0, .ref h0), (1, .int a1), (2, .int a2)]) (fun v H locs ls hI ih_34_124 => ?_) ((0 : Int32), (0 : Int64)) ⟨(show (0 : Int) ≤ (0 : Int32).toInt ∧ (0 : Int32).toInt ≤ 181 from (rg_w (by decide : (0 : Int) ≤ (0 : Int32).toInt ∧ (0 : Int32).toInt ≤ 0) (by decide) (by decide))), hP, hD, hS, lv_sub hl [0, 1, 2, 3, 4] rfl⟩
      obtain ⟨y_81, y_82⟩ := v
      obtain ⟨b_y_81, hP, hD, hS, hl⟩ := hI
      have b_y_81 : (0 : Int) ≤ y_81.toInt ∧ y_81.toInt ≤ 181 := b_y_81
      have hP : va_P (dC, dI) vwCl [(h0, .inr (7, [.ref tp, .ref sc, .ref rd, .ref cu, .ref im, .ref ig, .ref sl, .ref se, .ref sm, .ref fc])), (sm, .inr (5, [.ref wy])), (wy, .inl (cW, 181, .inr (.inl o0_74)))] H := hP
      have hD : va_D A [(h0, .inr (7, [.ref tp, .ref sc, .ref rd, .ref cu, .ref im, .ref ig, .ref sl, .ref se, .ref sm, .ref fc])), (sm, .inr (5, [.ref wy])), (wy, .inl (cW, 181, .inr (.inl o0_74)))] := hD
      have hl : lv_has ls 6 [(5, .int y_81), (3, .long y_82), (0, .ref h0), (1, .int a1), (2, .int a2)] := hl
      refine lv_iload hx hb dX9_halves_34 (lv_at hl 0 rfl) ?_
      refine lv_sipush (v := 180) hx hb dX9_halves_36 (by decide) ?_
      refine lv_icmp_gt (tgt := 70) hx hb dX9_halves_39 (by decide) (fun c_125 => ?_) (fun c_125 => ?_)
      ·
        have n_c_125 : (180 : Int) < y_81.toInt := c_gt rfl (by decide) c_125
        have b_y_81 : (181 : Int) ≤ y_81.toInt ∧ y_81.toInt ≤ 181 := r_lt2 (by decide : (180 : Int) ≤ (180 : Int32).toInt ∧ (180 : Int32).toInt ≤ 180) b_y_81 n_c_125 (by decide)
        refine lv_lload_n hx hb dX9_halves_70 rfl (lv_at hl 1 rfl) ?_
        have hP9 := hP.sub (ws' := [(h0, .inr (7, [.ref tp, .ref sc, .ref rd, .ref cu, .ref im, .ref ig, .ref sl, .ref se, .ref sm, .ref fc])), (sm, .inr (5, [.ref wy])), (wy, .inl (cW, 181, .inr (.inl o0_74)))]) [0, 1, 2] rfl
        have hD9 := hD.sub (ws' := [(h0, .inr (7, [.ref tp, .ref sc, .ref rd, .ref cu, .ref im, .ref ig, .ref sl, .ref se, .ref sm, .ref fc])), (sm, .inr (5, [.ref wy])), (wy, .inl (cW, 181, .inr (.inl o0_74)))]) [0, 1, 2] (by decide) rfl
        have hK9 := hK.sub (tys' := [(cW, .long)]) [0] rfl
        exact W.lret (v := y_82) hx hb hr (fun t ht hW => ⟨⟨y_82, (), rfl, trivial, o0_74, by rw [ht]; exact hP9, va_K.moved hW.alike hK9, hD9⟩, hS.F ht⟩) hS.2.2 dX9_halves_71
      ·
        have n_c_125 : (y_81.toInt : Int) ≤ 180 := c_ngt rfl (by decide) c_125
        have b_y_81 : (0 : Int) ≤ y_81.toInt ∧ y_81.toInt ≤ 180 := r_le1 b_y_81 (by decide : (180 : Int) ≤ (180 : Int32).toInt ∧ (180 : Int32).toInt ≤ 180) n_c_125 (by decide)
        refine lv_lload_n hx hb dX9_halves_42 rfl (lv_at hl 1 rfl) ?_
        refine lv_aload_n hx hb dX9_halves_43 rfl (lv_at hl 2 rfl) ?_
        refine va_get (D := (dC, dI)) (ci := 7) (v := .ref sm) (C := RX9) (T := TX9) (N := 10) hx hb hts iX9_halves_X9 hown hK hP 0 rfl rfl 8 (by decide) (hts (.fieldLink RX9 64 "LuckyTicket" "sumTable" "LLuckyTicket$SumTable;") (List.mem_of_getElem? (i := 5) rfl)) (fun _ h9 => h9) rfl dX9_halves_44 ?_
        refine lv_iload hx hb dX9_halves_47 (lv_at hl 0 rfl) ?_
        refine vp_callSl (W.runV (As := [.int y_81]) (rest := [.long y_82]) ⟨hx, hb, hml, hown, hts⟩ (kX6_waysTo l dC dI sm wy cW o0_74 y_81 ) (cwV 1 hts gX9_halves__X6_waysTo_V324 rfl rfl rfl hd_yX6_waysTo ⟨lel 1 2 rfl, lel 21 47 rfl⟩) ⟨pw_fb, rcv_X6 hK hP (q0 := 1) rfl, (pw_use hP hK hN [1, 2] rfl [0] rfl)⟩ rfl rfl hl.1 rfl (lv_room (Nat.le_of_ble_eq_true rfl)) dX9_halves_49 ⟨lel 0 0 rfl, lel 0 0 rfl⟩) (fun r_126 h_r_126 => ?_)
        refine lv_aload_n hx hb dX9_halves_52 rfl (lv_at hl 2 rfl) ?_
        refine va_get (D := (dC, dI)) (ci := 7) (v := .ref sm) (C := RX9) (T := TX9) (N := 10) hx hb hts iX9_halves_X9 hown hK hP 0 rfl rfl 8 (by decide) (hts (.fieldLink RX9 64 "LuckyTicket" "sumTable" "LLuckyTicket$SumTable;") (List.mem_of_getElem? (i := 5) rfl)) (fun _ h9 => h9) rfl dX9_halves_53 ?_
        refine lv_iload hx hb dX9_halves_56 (lv_at hl 0 rfl) ?_
        refine vp_callSl (W.runV (As := [.int y_81]) (rest := [.long r_126, .long y_82]) ⟨hx, hb, hml, hown, hts⟩ (kX6_waysTo l dC dI sm wy cW o0_74 y_81 ) (cwV 1 hts gX9_halves__X6_waysTo_V324 rfl rfl rfl hd_yX6_waysTo ⟨lel 1 2 rfl, lel 21 47 rfl⟩) ⟨pw_fb, rcv_X6 hK hP (q0 := 1) rfl, (pw_use hP hK hN [1, 2] rfl [0] rfl)⟩ rfl rfl hl.1 rfl (lv_room (Nat.le_of_ble_eq_true rfl)) dX9_halves_58 ⟨lel 0 0 rfl, lel 0 0 rfl⟩) (fun r_127 h_r_127 => ?_)
        refine lv_lmul hx hb dX9_halves_61 ?_
        refine lv_topl (fun z_128 e_z_128 => ?_)
        refine lv_ladd hx hb dX9_halves_62 ?_
        refine lv_topl (fun z_129 e_z_129 => ?_)
        refine lv_lstore_n (lv' := [(3, .long z_129), (5, .int y_81), (0, .ref h0), (1, .int a1), (2, .int a2)]) hx hb dX9_halves_63 rfl hl (by decide) rfl (fun ls hl => ?_)
        obtain ⟨z_130, e_z_130⟩ : ∃ y : Int32, y = y_81 + 1 := ⟨_, rfl⟩
        refine lv_iinc (v := z_130) (lv' := [(5, .int z_130), (3, .long z_129), (0, .ref h0), (1, .int a1), (2, .int a2)]) hx hb dX9_halves_64 hl (k := 1) rfl (by rw [e_z_130]; rfl) (by decide) rfl (fun ls hl => ?_)
        obtain ⟨q_z_130, b_z_130⟩ := ti_add (lo := 1) (hi := 181) e_z_130 rfl (by decide : (1 : Int32).toInt = 1) b_y_81 (by decide : (1 : Int) ≤ (1 : Int32).toInt ∧ (1 : Int32).toInt ≤ 1) (by decide)
        refine lv_goto (tgt := 34) hx hb dX9_halves_67 (by decide) ?_
        exact ih_34_124 (z_130, z_129) _ _ _ ⟨(show (0 : Int) ≤ z_130.toInt ∧ z_130.toInt ≤ 181 from (rg_w b_z_130 (by decide) (by decide))), hP, hD, hS, lv_sub hl [0, 1, 2, 3, 4] rfl⟩ (show (181 - z_130.toInt).toNat < (181 - y_81.toInt).toNat by omega)
    ·
      have n_c_70 : (z_69.toInt : Int) ≠ 0 := c_ne rfl (by decide) c_70
      have b_z_69 : (1 : Int) ≤ z_69.toInt ∧ z_69.toInt ≤ 1 := r_ne1 b_z_69 (by decide : (0 : Int) ≤ (0 : Int32).toInt ∧ (0 : Int32).toInt ≤ 0) n_c_70 (by decide)
      refine lv_ldc2 (v := (-2)) hx hb hown (hts (.constantLong RX9 265 (-2)) (List.mem_of_getElem? (i := 4) rfl)) dX9_halves_14 ?_
      have hP9 := hP.sub (ws' := [(h0, .inr (7, [.ref tp, .ref sc, .ref rd, .ref cu, .ref im, .ref ig, .ref sl, .ref se, .ref sm, .ref fc])), (sm, .inr (5, [.ref wy])), (wy, .inl (cW, 181, .inr (.inl fw)))]) [0, 1, 2] rfl
      have hD9 := hD.sub (ws' := [(h0, .inr (7, [.ref tp, .ref sc, .ref rd, .ref cu, .ref im, .ref ig, .ref sl, .ref se, .ref sm, .ref fc])), (sm, .inr (5, [.ref wy])), (wy, .inl (cW, 181, .inr (.inl fw)))]) [0, 1, 2] (by decide) rfl
      have hK9 := hK.sub (tys' := [(cW, .long)]) [0] rfl
      exact W.lret (v := (-2)) hx hb hr (fun t ht hW => ⟨⟨(-2), (), rfl, trivial, fw, by rw [ht]; exact hP9, va_K.moved hW.alike hK9, hD9⟩, hS.F ht⟩) hS.2.2 dX9_halves_17
theorem dX9_middle_0 : decode cX9_middle 0 = .ok (.iload_n 1, 1) := by decide +kernel
theorem dX9_middle_1 : decode cX9_middle 1 = .ok (.iload_n 2, 1) := by decide +kernel
theorem dX9_middle_2 : decode cX9_middle 2 = .ok (.invokestatic 318, 3) := by decide +kernel
theorem dX9_middle_5 : decode cX9_middle 5 = .ok (.ifCond .ne 7, 3) := by decide +kernel
theorem dX9_middle_8 : decode cX9_middle 8 = .ok (.ldc2_w 265, 3) := by decide +kernel
theorem dX9_middle_11 : decode cX9_middle 11 = .ok (.lreturn, 1) := by decide +kernel
theorem dX9_middle_12 : decode cX9_middle 12 = .ok (.aload_n 0, 1) := by decide +kernel
theorem dX9_middle_13 : decode cX9_middle 13 = .ok (.getfield 64, 3) := by decide +kernel
theorem dX9_middle_16 : decode cX9_middle 16 = .ok (.iload_n 1, 1) := by decide +kernel
theorem dX9_middle_17 : decode cX9_middle 17 = .ok (.iload_n 2, 1) := by decide +kernel
theorem dX9_middle_18 : decode cX9_middle 18 = .ok (.invokevirtual 321, 3) := by decide +kernel
theorem dX9_middle_21 : decode cX9_middle 21 = .ok (.aload_n 0, 1) := by decide +kernel
theorem dX9_middle_22 : decode cX9_middle 22 = .ok (.getfield 64, 3) := by decide +kernel
theorem dX9_middle_25 : decode cX9_middle 25 = .ok (.iload_n 2, 1) := by decide +kernel
theorem dX9_middle_26 : decode cX9_middle 26 = .ok (.iconst 1, 1) := by decide +kernel
theorem dX9_middle_27 : decode cX9_middle 27 = .ok (.isub, 1) := by decide +kernel
theorem dX9_middle_28 : decode cX9_middle 28 = .ok (.iload_n 1, 1) := by decide +kernel
theorem dX9_middle_29 : decode cX9_middle 29 = .ok (.imul, 1) := by decide +kernel
theorem dX9_middle_30 : decode cX9_middle 30 = .ok (.iconst 2, 1) := by decide +kernel
theorem dX9_middle_31 : decode cX9_middle 31 = .ok (.idiv, 1) := by decide +kernel
theorem dX9_middle_32 : decode cX9_middle 32 = .ok (.invokevirtual 324, 3) := by decide +kernel
theorem dX9_middle_35 : decode cX9_middle 35 = .ok (.lreturn, 1) := by decide +kernel
theorem hd_yX9_middle : yX9_middle.cls = RX9 ∧ yX9_middle.cls ≠ "java/lang/invoke/MethodHandle" ∧ yX9_middle.cls ≠ "java/lang/invoke/VarHandle" ∧ (parseMethodDescriptor yX9_middle.desc).map (fun d => d.parameters.length) = some 2 := by decide +kernel
def uX9_middle : List Cond := List.cons (.code yX9_middle cX9_middle 3 (some .long)) (HAppend.hAppend ([.methodLink RX9 318 yX9_isLong, .static yX9_isLong, .initialized RX9, .fieldLink RX9 64 "LuckyTicket" "sumTable" "LLuckyTicket$SumTable;", .methodLink RX9 321 yX6_fill, .instanceMethod yX6_fill, .selects RX6 yX6_fill yX6_fill, .initialized RX6, .methodLink RX9 324 yX6_waysTo, .instanceMethod yX6_waysTo, .selects RX6 yX6_waysTo yX6_waysTo, .constantLong RX9 265 (-2)] : List Cond) (HAppend.hAppend uX9_isLong (HAppend.hAppend uX6_fill (HAppend.hAppend uX6_waysTo wsX90))))
theorem iX9_middle_X9 : ∀ w ∈ wsX90, w ∈ uX9_middle := fun _ h => (List.mem_cons_of_mem _ (List.mem_append_right _ (List.mem_append_right _ (List.mem_append_right _ (List.mem_append_right _ h)))))
theorem guX9_middle : GU uX9_middle := gu_cons (gu_app (by decide +kernel) (gu_ap guX9_isLong (gu_ap guX6_fill (gu_ap guX6_waysTo gws_X9))))
theorem gX9_middle__X9_isLong_S318 : GoodIn uX9_middle (va_wsS RX9 318 yX9_isLong uX9_isLong) := gin_S (List.mem_of_getElem? (i := 1) rfl) (List.mem_of_getElem? (i := 2) rfl) (List.mem_of_getElem? (i := 3) rfl) (fun _ h => (List.mem_cons_of_mem _ (List.mem_append_right _ (List.mem_append_left _ h)))) guX9_isLong
theorem gX9_middle__X6_fill_V321 : GoodIn uX9_middle (wsV RX9 321 RX6 yX6_fill uX6_fill) := gin_V (List.mem_of_getElem? (i := 5) rfl) (List.mem_of_getElem? (i := 6) rfl) (List.mem_of_getElem? (i := 7) rfl) (List.mem_of_getElem? (i := 8) rfl) (fun _ h => (List.mem_cons_of_mem _ (List.mem_append_right _ (List.mem_append_right _ (List.mem_append_left _ h))))) guX6_fill
theorem gX9_middle__X6_waysTo_V324 : GoodIn uX9_middle (wsV RX9 324 RX6 yX6_waysTo uX6_waysTo) := gin_V (List.mem_of_getElem? (i := 9) rfl) (List.mem_of_getElem? (i := 10) rfl) (List.mem_of_getElem? (i := 11) rfl) (List.mem_of_getElem? (i := 8) rfl) (fun _ h => (List.mem_cons_of_mem _ (List.mem_append_right _ (List.mem_append_right _ (List.mem_append_right _ (List.mem_append_left _ h)))))) guX6_waysTo
set_option maxHeartbeats 4000000 in
set_option maxRecDepth 100000 in
theorem kX9_middle (l : Launch) (dC : Nat → ClassId) (dI : Nat → Nat → Nat) (h0 : Nat) (tp : Nat) (sc : Nat) (rd : Nat) (cu : Nat) (im : Nat) (ig : Nat) (sl : Nat) (se : Nat) (fc : Nat) (sm : Nat) (wy : Nat) (cW : ClassId) (fw : Nat → Int64) (a1 : Int32) (a2 : Int32) (sz : Nat) : Met l yX9_middle uX9_middle ({ frames := 2, cells := 0, slots := 0, locals := 47 }) (va_Pc [.ref h0, .int a1, .int a2] (hw (dC, dI) vwCl [(h0, .inr (7, [.ref tp, .ref sc, .ref rd, .ref cu, .ref im, .ref ig, .ref sl, .ref se, .ref sm, .ref fc])), (sm, .inr (5, [.ref wy])), (wy, .inl (cW, 181, .inr (.inl fw)))] [(cW, .long)] sz)) (va_Ql (fun (r : Int64) (_ : Unit) => True) (fun (_ : Unit) t => ∃ (o0_ : Nat → Int64), va_P (dC, dI) vwCl [(h0, .inr (7, [.ref tp, .ref sc, .ref rd, .ref cu, .ref im, .ref ig, .ref sl, .ref se, .ref sm, .ref fc])), (sm, .inr (5, [.ref wy])), (wy, .inl (cW, 181, .inr (.inl o0_)))] t.heap ∧ va_K (dC, dI) vwCl [(cW, .long)] t ∧ va_D (va_A [(h0, .inr (7, [.ref tp, .ref sc, .ref rd, .ref cu, .ref im, .ref ig, .ref sl, .ref se, .ref sm, .ref fc])), (sm, .inr (5, [.ref wy])), (wy, .inl (cW, 181, .inr (.inl fw)))] sz) [(h0, .inr (7, [.ref tp, .ref sc, .ref rd, .ref cu, .ref im, .ref ig, .ref sl, .ref se, .ref sm, .ref fc])), (sm, .inr (5, [.ref wy])), (wy, .inl (cW, 181, .inr (.inl o0_)))]) (va_A [(h0, .inr (7, [.ref tp, .ref sc, .ref rd, .ref cu, .ref im, .ref ig, .ref sl, .ref se, .ref sm, .ref fc])), (sm, .inr (5, [.ref wy])), (wy, .inl (cW, 181, .inr (.inl fw)))] sz)) 0 0 (va_A [(h0, .inr (7, [.ref tp, .ref sc, .ref rd, .ref cu, .ref im, .ref ig, .ref sl, .ref se, .ref sm, .ref fc])), (sm, .inr (5, [.ref wy])), (wy, .inl (cW, 181, .inr (.inl fw)))] sz) := by
  refine Met.ofW (cc := cX9_middle) (maxL := 3) (ret := (some .long)) pn_X9 rfl ?_
  intro p e s m args below meth c s₁ B hml hv
  obtain ⟨rfl, hsz, hP, hK, hD0, hN⟩ := hv
  have hx := B.exec
  have hb := B.bytes
  have hr := B.returns
  have hts := atoms_spec (ws := uX9_middle) B.pre
  have hown : s.vm.findClass RX9 = some m.cls := hown_of B.named rfl
  have hlocks := B.notSynchronized
  subst hsz
  have hD := hD0.self (sz := s.heap.size)
  generalize hAe : va_A [(h0, .inr (7, [.ref tp, .ref sc, .ref rd, .ref cu, .ref im, .ref ig, .ref sl, .ref se, .ref sm, .ref fc])), (sm, .inr (5, [.ref wy])), (wy, .inl (cW, 181, .inr (.inl fw)))] s.heap.size = A at hD ⊢
  have hA : ∀ q : Nat, s.heap.size ≤ q → A q := fun q h => by rw [← hAe]; exact Or.inr h
  have hS : va_S A s.heap s.heap [] := va_S.rf
  have hP : va_P (dC, dI) vwCl [(h0, .inr (7, [.ref tp, .ref sc, .ref rd, .ref cu, .ref im, .ref ig, .ref sl, .ref se, .ref sm, .ref fc])), (sm, .inr (5, [.ref wy])), (wy, .inl (cW, 181, .inr (.inl fw)))] s.heap := hP
  have hl := lv_entry ([.ref h0, .int a1, .int a2]) (n := 3) (Nat.le_of_ble_eq_true rfl)
  rw [lg_entry_eq]
  generalize (lg_sl ([.ref h0, .int a1, .int a2]) ++ List.replicate (3 - (lg_sl ([.ref h0, .int a1, .int a2])).length) Slot.unset).toArray = ls at hl ⊢
  have hl : lv_has ls 3 [(0, .ref h0), (1, .int a1), (2, .int a2)] := hl
  refine lv_iload_n hx hb dX9_middle_0 rfl (lv_at hl 1 rfl) ?_
  refine lv_iload_n hx hb dX9_middle_1 rfl (lv_at hl 2 rfl) ?_
  refine vp_callSi (W.runS (As := [.int a1, .int a2]) (rest := []) ⟨hx, hb, hml, hown, hts⟩ (kX9_isLong l dC dI a1 a2 ) (va_cwS 2 hts gX9_middle__X9_isLong_S318 rfl rfl rfl hd_yX9_isLong.2 ⟨lel 2 2 rfl, lel 43 47 rfl⟩) ⟨pn_fb, pn_use⟩ rfl rfl hl.1 rfl (lv_room (Nat.le_of_ble_eq_true rfl)) dX9_middle_2 ⟨lel 0 0 rfl, lel 0 0 rfl⟩) (fun r_11 h_r_11 => ?_)
  obtain ⟨b_r_11, nz_r_11⟩ := h_r_11
  have b_r_11 : (0 : Int) ≤ r_11.toInt ∧ r_11.toInt ≤ 1 := b_r_11
  refine lv_if_ne (tgt := 12) hx hb dX9_middle_5 (by decide) (fun c_12 => ?_) (fun c_12 => ?_)
  ·
    have n_c_12 : (r_11.toInt : Int) ≠ 0 := c_ne rfl (by decide) c_12
    have b_r_11 : (1 : Int) ≤ r_11.toInt ∧ r_11.toInt ≤ 1 := r_ne1 b_r_11 (by decide : (0 : Int) ≤ (0 : Int32).toInt ∧ (0 : Int32).toInt ≤ 0) n_c_12 (by decide)
    obtain ⟨b_a1, b_a2, g_13⟩ := nz_r_11 c_12
    refine lv_aload_n hx hb dX9_middle_12 rfl (lv_at hl 0 rfl) ?_
    refine va_get (D := (dC, dI)) (ci := 7) (v := .ref sm) (C := RX9) (T := TX9) (N := 10) hx hb hts iX9_middle_X9 hown hK hP 0 rfl rfl 8 (by decide) (hts (.fieldLink RX9 64 "LuckyTicket" "sumTable" "LLuckyTicket$SumTable;") (List.mem_of_getElem? (i := 4) rfl)) (fun _ h9 => h9) rfl dX9_middle_13 ?_
    refine lv_iload_n hx hb dX9_middle_16 rfl (lv_at hl 1 rfl) ?_
    refine lv_iload_n hx hb dX9_middle_17 rfl (lv_at hl 2 rfl) ?_
    have hFc := va_free (wc := [(sm, .inr (5, [.ref wy])), (wy, .inl (cW, 181, .inr (.inl fw)))]) hD hS hA [1, 2] rfl
    refine va_callv (va_runV (As := [.int a1, .int a2]) (rest := []) ⟨hx, hb, hml, hown, hts⟩ (kX6_fill l dC dI sm wy cW fw a1 a2 (s.heap.size) (rg_w b_a1 (by decide) (by decide)) b_a2) (cwV 2 hts gX9_middle__X6_fill_V321 rfl rfl rfl hd_yX6_fill ⟨lel 2 2 rfl, lel 47 47 rfl⟩) ⟨hw_fb, rcv_X6 hK hP (q0 := 1) rfl, (hw_use hP hD hK hN [1, 2] rfl (by decide) rfl [0] rfl)⟩ rfl rfl hl.1 rfl (lv_room (Nat.le_of_ble_eq_true rfl)) dX9_middle_18 ⟨lel 0 0 rfl, lel 0 0 rfl⟩) hS (fun q _ h => hFc q h) hFc (fun u_15 t H1 locs ht hvm hw_r_14 hB hz1 hk1 hS => ?_)
    obtain ⟨o0_16, hP1, hK1, hD1⟩ := hB
    rw [ht] at hP1
    have hK1 := va_K.moved hvm.symm hK1
    obtain ⟨hP, hD⟩ := va_join (wr := [(h0, .inr (7, [.ref tp, .ref sc, .ref rd, .ref cu, .ref im, .ref ig, .ref sl, .ref se, .ref sm, .ref fc]))]) (w1 := [(sm, .inr (5, [.ref wy])), (wy, .inl (cW, 181, .inr (.inl o0_16)))]) hP hD [1, 2] [0] rfl rfl (by decide) (by decide) hk1 hFc hP1 hD1
    have hK := (hK.sub (tys' := []) [] rfl).app hK1
    generalize H1 = H at hP hS ⊢
    have hP : va_P (dC, dI) vwCl [(h0, .inr (7, [.ref tp, .ref sc, .ref rd, .ref cu, .ref im, .ref ig, .ref sl, .ref se, .ref sm, .ref fc])), (sm, .inr (5, [.ref wy])), (wy, .inl (cW, 181, .inr (.inl o0_16)))] H := hP
    have hD : va_D A [(h0, .inr (7, [.ref tp, .ref sc, .ref rd, .ref cu, .ref im, .ref ig, .ref sl, .ref se, .ref sm, .ref fc])), (sm, .inr (5, [.ref wy])), (wy, .inl (cW, 181, .inr (.inl o0_16)))] := hD
    have hK : va_K (dC, dI) vwCl [(cW, .long)] s := hK
    refine lv_aload_n hx hb dX9_middle_21 rfl (lv_at hl 0 rfl) ?_
    refine va_get (D := (dC, dI)) (ci := 7) (v := .ref sm) (C := RX9) (T := TX9) (N := 10) hx hb hts iX9_middle_X9 hown hK hP 0 rfl rfl 8 (by decide) (hts (.fieldLink RX9 64 "LuckyTicket" "sumTable" "LLuckyTicket$SumTable;") (List.mem_of_getElem? (i := 4) rfl)) (fun _ h9 => h9) rfl dX9_middle_22 ?_
    refine lv_iload_n hx hb dX9_middle_25 rfl (lv_at hl 2 rfl) ?_
    refine lv_iconst (v := 1) hx hb dX9_middle_26 (by decide) ?_
    refine lv_isub hx hb dX9_middle_27 ?_
    refine lv_topi (fun z_17 e_z_17 => ?_)
    obtain ⟨q_z_17, b_z_17⟩ := ti_sub (lo := 1) (hi := 15) e_z_17 rfl (by decide : (1 : Int32).toInt = 1) b_a2 (by decide : (1 : Int) ≤ (1 : Int32).toInt ∧ (1 : Int32).toInt ≤ 1) (by decide)
    refine lv_iload_n hx hb dX9_middle_28 rfl (lv_at hl 1 rfl) ?_
    refine lv_imul hx hb dX9_middle_29 ?_
    refine lv_topi (fun z_18 e_z_18 => ?_)
    obtain ⟨q_z_18, b_z_18⟩ := ti_mul (lo := 1) (hi := 180) e_z_18 rfl rfl b_z_17 b_a1 (by decide)
    refine lv_iconst (v := 2) hx hb dX9_middle_30 (by decide) ?_
    refine lv_idiv hx hb dX9_middle_31 (by decide) ?_
    refine lv_topi (fun z_19 e_z_19 => ?_)
    obtain ⟨q_z_19, b_z_19⟩ := ti_div (hi := 90) e_z_19 rfl (by decide : (2 : Int32).toInt = 2) b_z_18 (by decide : (2 : Int) ≤ (2 : Int32).toInt ∧ (2 : Int32).toInt ≤ 2) (by decide)
    refine vp_callSl (W.runV (As := [.int z_19]) (rest := []) ⟨hx, hb, hml, hown, hts⟩ (kX6_waysTo l dC dI sm wy cW o0_16 z_19 ) (cwV 1 hts gX9_middle__X6_waysTo_V324 rfl rfl rfl hd_yX6_waysTo ⟨lel 1 2 rfl, lel 21 47 rfl⟩) ⟨pw_fb, rcv_X6 hK hP (q0 := 1) rfl, (pw_use hP hK hN [1, 2] rfl [0] rfl)⟩ rfl rfl hl.1 rfl (lv_room (Nat.le_of_ble_eq_true rfl)) dX9_middle_32 ⟨lel 0 0 rfl, lel 0 0 rfl⟩) (fun r_20 h_r_20 => ?_)
    have hP9 := hP.sub (ws' := [(h0, .inr (7, [.ref tp, .ref sc, .ref rd, .ref cu, .ref im, .ref ig, .ref sl, .ref se, .ref sm, .ref fc])), (sm, .inr (5, [.ref wy])), (wy, .inl (cW, 181, .inr (.inl o0_16)))]) [0, 1, 2] rfl
    have hD9 := hD.sub (ws' := [(h0, .inr (7, [.ref tp, .ref sc, .ref rd, .ref cu, .ref im, .ref ig, .ref sl, .ref se, .ref sm, .ref fc])), (sm, .inr (5, [.ref wy])), (wy, .inl (cW, 181, .inr (.inl o0_16)))]) [0, 1, 2] (by decide) rfl
    have hK9 := hK.sub (tys' := [(cW, .long)]) [0] rfl
    exact W.lret (v := r_20) hx hb hr (fun t ht hW => ⟨⟨r_20, (), rfl, trivial, o0_16, by rw [ht]; exact hP9, va_K.moved hW.alike hK9, hD9⟩, hS.F ht⟩) hS.2.2 dX9_middle_35
  ·
    have n_c_12 : (r_11.toInt : Int) = 0 := c_eq rfl (by decide) c_12
    have b_r_11 : (0 : Int) ≤ r_11.toInt ∧ r_11.toInt ≤ 0 := r_eq1 b_r_11 (by decide : (0 : Int) ≤ (0 : Int32).toInt ∧ (0 : Int32).toInt ≤ 0) n_c_12 (by decide)
    refine lv_ldc2 (v := (-2)) hx hb hown (hts (.constantLong RX9 265 (-2)) (List.mem_of_getElem? (i := 12) rfl)) dX9_middle_8 ?_
    have hP9 := hP.sub (ws' := [(h0, .inr (7, [.ref tp, .ref sc, .ref rd, .ref cu, .ref im, .ref ig, .ref sl, .ref se, .ref sm, .ref fc])), (sm, .inr (5, [.ref wy])), (wy, .inl (cW, 181, .inr (.inl fw)))]) [0, 1, 2] rfl
    have hD9 := hD.sub (ws' := [(h0, .inr (7, [.ref tp, .ref sc, .ref rd, .ref cu, .ref im, .ref ig, .ref sl, .ref se, .ref sm, .ref fc])), (sm, .inr (5, [.ref wy])), (wy, .inl (cW, 181, .inr (.inl fw)))]) [0, 1, 2] (by decide) rfl
    have hK9 := hK.sub (tys' := [(cW, .long)]) [0] rfl
    exact W.lret (v := (-2)) hx hb hr (fun t ht hW => ⟨⟨(-2), (), rfl, trivial, fw, by rw [ht]; exact hP9, va_K.moved hW.alike hK9, hD9⟩, hS.F ht⟩) hS.2.2 dX9_middle_11
theorem dX9_most_0 : decode cX9_most 0 = .ok (.iload_n 1, 1) := by decide +kernel
theorem dX9_most_1 : decode cX9_most 1 = .ok (.iload_n 2, 1) := by decide +kernel
theorem dX9_most_2 : decode cX9_most 2 = .ok (.invokestatic 318, 3) := by decide +kernel
theorem dX9_most_5 : decode cX9_most 5 = .ok (.ifCond .ne 6, 3) := by decide +kernel
theorem dX9_most_8 : decode cX9_most 8 = .ok (.bipush (-2), 2) := by decide +kernel
theorem dX9_most_10 : decode cX9_most 10 = .ok (.ireturn, 1) := by decide +kernel
theorem dX9_most_11 : decode cX9_most 11 = .ok (.aload_n 0, 1) := by decide +kernel
theorem dX9_most_12 : decode cX9_most 12 = .ok (.getfield 64, 3) := by decide +kernel
theorem dX9_most_15 : decode cX9_most 15 = .ok (.iload_n 1, 1) := by decide +kernel
theorem dX9_most_16 : decode cX9_most 16 = .ok (.iload_n 2, 1) := by decide +kernel
theorem dX9_most_17 : decode cX9_most 17 = .ok (.invokevirtual 321, 3) := by decide +kernel
theorem dX9_most_20 : decode cX9_most 20 = .ok (.iconst 0, 1) := by decide +kernel
theorem dX9_most_21 : decode cX9_most 21 = .ok (.istore_n 3, 1) := by decide +kernel
theorem dX9_most_22 : decode cX9_most 22 = .ok (.iconst 1, 1) := by decide +kernel
theorem dX9_most_23 : decode cX9_most 23 = .ok (.istore 4, 2) := by decide +kernel
theorem dX9_most_25 : decode cX9_most 25 = .ok (.iload 4, 2) := by decide +kernel
theorem dX9_most_27 : decode cX9_most 27 = .ok (.sipush 180, 3) := by decide +kernel
theorem dX9_most_30 : decode cX9_most 30 = .ok (.if_icmp .gt 33, 3) := by decide +kernel
theorem dX9_most_33 : decode cX9_most 33 = .ok (.aload_n 0, 1) := by decide +kernel
theorem dX9_most_34 : decode cX9_most 34 = .ok (.getfield 64, 3) := by decide +kernel
theorem dX9_most_37 : decode cX9_most 37 = .ok (.iload 4, 2) := by decide +kernel
theorem dX9_most_39 : decode cX9_most 39 = .ok (.invokevirtual 324, 3) := by decide +kernel
theorem dX9_most_42 : decode cX9_most 42 = .ok (.aload_n 0, 1) := by decide +kernel
theorem dX9_most_43 : decode cX9_most 43 = .ok (.getfield 64, 3) := by decide +kernel
theorem dX9_most_46 : decode cX9_most 46 = .ok (.iload_n 3, 1) := by decide +kernel
theorem dX9_most_47 : decode cX9_most 47 = .ok (.invokevirtual 324, 3) := by decide +kernel
theorem dX9_most_50 : decode cX9_most 50 = .ok (.lcmp, 1) := by decide +kernel
theorem dX9_most_51 : decode cX9_most 51 = .ok (.ifCond .le 6, 3) := by decide +kernel
theorem dX9_most_54 : decode cX9_most 54 = .ok (.iload 4, 2) := by decide +kernel
theorem dX9_most_56 : decode cX9_most 56 = .ok (.istore_n 3, 1) := by decide +kernel
theorem dX9_most_57 : decode cX9_most 57 = .ok (.iinc 4 1, 3) := by decide +kernel
theorem dX9_most_60 : decode cX9_most 60 = .ok (.goto (-35), 3) := by decide +kernel
theorem dX9_most_63 : decode cX9_most 63 = .ok (.iload_n 3, 1) := by decide +kernel
theorem dX9_most_64 : decode cX9_most 64 = .ok (.ireturn, 1) := by decide +kernel
theorem hd_yX9_most : yX9_most.cls = RX9 ∧ yX9_most.cls ≠ "java/lang/invoke/MethodHandle" ∧ yX9_most.cls ≠ "java/lang/invoke/VarHandle" ∧ (parseMethodDescriptor yX9_most.desc).map (fun d => d.parameters.length) = some 2 := by decide +kernel
def uX9_most : List Cond := List.cons (.code yX9_most cX9_most 5 (some .int)) (HAppend.hAppend ([.methodLink RX9 318 yX9_isLong, .static yX9_isLong, .initialized RX9, .fieldLink RX9 64 "LuckyTicket" "sumTable" "LLuckyTicket$SumTable;", .methodLink RX9 321 yX6_fill, .instanceMethod yX6_fill, .selects RX6 yX6_fill yX6_fill, .initialized RX6, .methodLink RX9 324 yX6_waysTo, .instanceMethod yX6_waysTo, .selects RX6 yX6_waysTo yX6_waysTo] : List Cond) (HAppend.hAppend uX9_isLong (HAppend.hAppend uX6_fill (HAppend.hAppend uX6_waysTo wsX90))))
theorem iX9_most_X9 : ∀ w ∈ wsX90, w ∈ uX9_most := fun _ h => (List.mem_cons_of_mem _ (List.mem_append_right _ (List.mem_append_right _ (List.mem_append_right _ (List.mem_append_right _ h)))))
theorem guX9_most : GU uX9_most := gu_cons (gu_app (by decide +kernel) (gu_ap guX9_isLong (gu_ap guX6_fill (gu_ap guX6_waysTo gws_X9))))
theorem gX9_most__X9_isLong_S318 : GoodIn uX9_most (va_wsS RX9 318 yX9_isLong uX9_isLong) := gin_S (List.mem_of_getElem? (i := 1) rfl) (List.mem_of_getElem? (i := 2) rfl) (List.mem_of_getElem? (i := 3) rfl) (fun _ h => (List.mem_cons_of_mem _ (List.mem_append_right _ (List.mem_append_left _ h)))) guX9_isLong
theorem gX9_most__X6_fill_V321 : GoodIn uX9_most (wsV RX9 321 RX6 yX6_fill uX6_fill) := gin_V (List.mem_of_getElem? (i := 5) rfl) (List.mem_of_getElem? (i := 6) rfl) (List.mem_of_getElem? (i := 7) rfl) (List.mem_of_getElem? (i := 8) rfl) (fun _ h => (List.mem_cons_of_mem _ (List.mem_append_right _ (List.mem_append_right _ (List.mem_append_left _ h))))) guX6_fill
theorem gX9_most__X6_waysTo_V324 : GoodIn uX9_most (wsV RX9 324 RX6 yX6_waysTo uX6_waysTo) := gin_V (List.mem_of_getElem? (i := 9) rfl) (List.mem_of_getElem? (i := 10) rfl) (List.mem_of_getElem? (i := 11) rfl) (List.mem_of_getElem? (i := 8) rfl) (fun _ h => (List.mem_cons_of_mem _ (List.mem_append_right _ (List.mem_append_right _ (List.mem_append_right _ (List.mem_append_left _ h)))))) guX6_waysTo
set_option maxHeartbeats 4000000 in
set_option maxRecDepth 100000 in
theorem kX9_most (l : Launch) (dC : Nat → ClassId) (dI : Nat → Nat → Nat) (h0 : Nat) (tp : Nat) (sc : Nat) (rd : Nat) (cu : Nat) (im : Nat) (ig : Nat) (sl : Nat) (se : Nat) (fc : Nat) (sm : Nat) (wy : Nat) (cW : ClassId) (fw : Nat → Int64) (a1 : Int32) (a2 : Int32) (sz : Nat) : Met l yX9_most uX9_most ({ frames := 2, cells := 0, slots := 0, locals := 47 }) (va_Pc [.ref h0, .int a1, .int a2] (hw (dC, dI) vwCl [(h0, .inr (7, [.ref tp, .ref sc, .ref rd, .ref cu, .ref im, .ref ig, .ref sl, .ref se, .ref sm, .ref fc])), (sm, .inr (5, [.ref wy])), (wy, .inl (cW, 181, .inr (.inl fw)))] [(cW, .long)] sz)) (va_Qi (fun (r : Int32) (_ : Unit) => ((-2 : Int) ≤ r.toInt ∧ r.toInt ≤ 255)) (fun (_ : Unit) t => ∃ (o0_ : Nat → Int64), va_P (dC, dI) vwCl [(h0, .inr (7, [.ref tp, .ref sc, .ref rd, .ref cu, .ref im, .ref ig, .ref sl, .ref se, .ref sm, .ref fc])), (sm, .inr (5, [.ref wy])), (wy, .inl (cW, 181, .inr (.inl o0_)))] t.heap ∧ va_K (dC, dI) vwCl [(cW, .long)] t ∧ va_D (va_A [(h0, .inr (7, [.ref tp, .ref sc, .ref rd, .ref cu, .ref im, .ref ig, .ref sl, .ref se, .ref sm, .ref fc])), (sm, .inr (5, [.ref wy])), (wy, .inl (cW, 181, .inr (.inl fw)))] sz) [(h0, .inr (7, [.ref tp, .ref sc, .ref rd, .ref cu, .ref im, .ref ig, .ref sl, .ref se, .ref sm, .ref fc])), (sm, .inr (5, [.ref wy])), (wy, .inl (cW, 181, .inr (.inl o0_)))]) (va_A [(h0, .inr (7, [.ref tp, .ref sc, .ref rd, .ref cu, .ref im, .ref ig, .ref sl, .ref se, .ref sm, .ref fc])), (sm, .inr (5, [.ref wy])), (wy, .inl (cW, 181, .inr (.inl fw)))] sz)) 0 0 (va_A [(h0, .inr (7, [.ref tp, .ref sc, .ref rd, .ref cu, .ref im, .ref ig, .ref sl, .ref se, .ref sm, .ref fc])), (sm, .inr (5, [.ref wy])), (wy, .inl (cW, 181, .inr (.inl fw)))] sz) := by
  refine Met.ofW (cc := cX9_most) (maxL := 5) (ret := (some .int)) pn_X9 rfl ?_
  intro p e s m args below meth c s₁ B hml hv
  obtain ⟨rfl, hsz, hP, hK, hD0, hN⟩ := hv
  have hx := B.exec
  have hb := B.bytes
  have hr := B.returns
  have hts := atoms_spec (ws := uX9_most) B.pre
  have hown : s.vm.findClass RX9 = some m.cls := hown_of B.named rfl
  have hlocks := B.notSynchronized
  subst hsz
  have hD := hD0.self (sz := s.heap.size)
  generalize hAe : va_A [(h0, .inr (7, [.ref tp, .ref sc, .ref rd, .ref cu, .ref im, .ref ig, .ref sl, .ref se, .ref sm, .ref fc])), (sm, .inr (5, [.ref wy])), (wy, .inl (cW, 181, .inr (.inl fw)))] s.heap.size = A at hD ⊢
  have hA : ∀ q : Nat, s.heap.size ≤ q → A q := fun q h => by rw [← hAe]; exact Or.inr h
  have hS : va_S A s.heap s.heap [] := va_S.rf
  have hP : va_P (dC, dI) vwCl [(h0, .inr (7, [.ref tp, .ref sc, .ref rd, .ref cu, .ref im, .ref ig, .ref sl, .ref se, .ref sm, .ref fc])), (sm, .inr (5, [.ref wy])), (wy, .inl (cW, 181, .inr (.inl fw)))] s.heap := hP
  have hl := lv_entry ([.ref h0, .int a1, .int a2]) (n := 5) (Nat.le_of_ble_eq_true rfl)
  rw [lg_entry_eq]
  generalize (lg_sl ([.ref h0, .int a1, .int a2]) ++ List.replicate (5 - (lg_sl ([.ref h0, .int a1, .int a2])).length) Slot.unset).toArray = ls at hl ⊢
  have hl : lv_has ls 5 [(0, .ref h0), (1, .int a1), (2, .int a2)] := hl
  refine lv_iload_n hx hb dX9_most_0 rfl (lv_at hl 1 rfl) ?_
  refine lv_iload_n hx hb dX9_most_1 rfl (lv_at hl 2 rfl) ?_
  refine vp_callSi (W.runS (As := [.int a1, .int a2]) (rest := []) ⟨hx, hb, hml, hown, hts⟩ (kX9_isLong l dC dI a1 a2 ) (va_cwS 2 hts gX9_most__X9_isLong_S318 rfl rfl rfl hd_yX9_isLong.2 ⟨lel 2 2 rfl, lel 43 47 rfl⟩) ⟨pn_fb, pn_use⟩ rfl rfl hl.1 rfl (lv_room (Nat.le_of_ble_eq_true rfl)) dX9_most_2 ⟨lel 0 0 rfl, lel 0 0 rfl⟩) (fun r_69 h_r_69 => ?_)
  obtain ⟨b_r_69, nz_r_69⟩ := h_r_69
  have b_r_69 : (0 : Int) ≤ r_69.toInt ∧ r_69.toInt ≤ 1 := b_r_69
  refine lv_if_ne (tgt := 11) hx hb dX9_most_5 (by decide) (fun c_70 => ?_) (fun c_70 => ?_)
  ·
    have n_c_70 : (r_69.toInt : Int) ≠ 0 := c_ne rfl (by decide) c_70
    have b_r_69 : (1 : Int) ≤ r_69.toInt ∧ r_69.toInt ≤ 1 := r_ne1 b_r_69 (by decide : (0 : Int) ≤ (0 : Int32).toInt ∧ (0 : Int32).toInt ≤ 0) n_c_70 (by decide)
    obtain ⟨b_a1, b_a2, g_71⟩ := nz_r_69 c_70
    refine lv_aload_n hx hb dX9_most_11 rfl (lv_at hl 0 rfl) ?_
    refine va_get (D := (dC, dI)) (ci := 7) (v := .ref sm) (C := RX9) (T := TX9) (N := 10) hx hb hts iX9_most_X9 hown hK hP 0 rfl rfl 8 (by decide) (hts (.fieldLink RX9 64 "LuckyTicket" "sumTable" "LLuckyTicket$SumTable;") (List.mem_of_getElem? (i := 4) rfl)) (fun _ h9 => h9) rfl dX9_most_12 ?_
    refine lv_iload_n hx hb dX9_most_15 rfl (lv_at hl 1 rfl) ?_
    refine lv_iload_n hx hb dX9_most_16 rfl (lv_at hl 2 rfl) ?_
    have hFc := va_free (wc := [(sm, .inr (5, [.ref wy])), (wy, .inl (cW, 181, .inr (.inl fw)))]) hD hS hA [1, 2] rfl
    refine va_callv (va_runV (As := [.int a1, .int a2]) (rest := []) ⟨hx, hb, hml, hown, hts⟩ (kX6_fill l dC dI sm wy cW fw a1 a2 (s.heap.size) (rg_w b_a1 (by decide) (by decide)) b_a2) (cwV 2 hts gX9_most__X6_fill_V321 rfl rfl rfl hd_yX6_fill ⟨lel 2 2 rfl, lel 47 47 rfl⟩) ⟨hw_fb, rcv_X6 hK hP (q0 := 1) rfl, (hw_use hP hD hK hN [1, 2] rfl (by decide) rfl [0] rfl)⟩ rfl rfl hl.1 rfl (lv_room (Nat.le_of_ble_eq_true rfl)) dX9_most_17 ⟨lel 0 0 rfl, lel 0 0 rfl⟩) hS (fun q _ h => hFc q h) hFc (fun u_73 t H1 locs ht hvm hw_r_72 hB hz1 hk1 hS => ?_)
    obtain ⟨o0_74, hP1, hK1, hD1⟩ := hB
    rw [ht] at hP1
    have hK1 := va_K.moved hvm.symm hK1
    obtain ⟨hP, hD⟩ := va_join (wr := [(h0, .inr (7, [.ref tp, .ref sc, .ref rd, .ref cu, .ref im, .ref ig, .ref sl, .ref se, .ref sm, .ref fc]))]) (w1 := [(sm, .inr (5, [.ref wy])), (wy, .inl (cW, 181, .inr (.inl o0_74)))]) hP hD [1, 2] [0] rfl rfl (by decide) (by decide) hk1 hFc hP1 hD1
    have hK := (hK.sub (tys' := []) [] rfl).app hK1
    generalize H1 = H at hP hS ⊢
    have hP : va_P (dC, dI) vwCl [(h0, .inr (7, [.ref tp, .ref sc, .ref rd, .ref cu, .ref im, .ref ig, .ref sl, .ref se, .ref sm, .ref fc])), (sm, .inr (5, [.ref wy])), (wy, .inl (cW, 181, .inr (.inl o0_74)))] H := hP
    have hD : va_D A [(h0, .inr (7, [.ref tp, .ref sc, .ref rd, .ref cu, .ref im, .ref ig, .ref sl, .ref se, .ref sm, .ref fc])), (sm, .inr (5, [.ref wy])), (wy, .inl (cW, 181, .inr (.inl o0_74)))] := hD
    have hK : va_K (dC, dI) vwCl [(cW, .long)] s := hK
    refine lv_iconst (v := 0) hx hb dX9_most_20 (by decide) ?_
    refine lv_istore_n (lv' := [(3, .int 0), (0, .ref h0), (1, .int a1), (2, .int a2)]) hx hb dX9_most_21 rfl hl (by decide) rfl (fun ls hl => ?_)
    refine lv_iconst (v := 1) hx hb dX9_most_22 (by decide) ?_
    refine lv_istore (lv' := [(4, .int 1), (3, .int 0), (0, .ref h0), (1, .int a1), (2, .int a2)]) hx hb dX9_most_23 hl (by decide) rfl (fun ls hl => ?_)
    refine loopW (σ := Int32 × Int32) (fun v => (181 - v.1.toInt).toNat) (fun v H locs ls => ((1 : Int) ≤ v.1.toInt ∧ v.1.toInt ≤ 181) ∧ ((0 : Int) ≤ v.2.toInt ∧ v.2.toInt ≤ 255) ∧ va_P (dC, dI) vwCl [(h0, .inr (7, [.ref tp, .ref sc, .ref rd, .ref cu, .ref im, .ref ig, .ref sl, .ref se, .ref sm, .ref fc])), (sm, .inr (5, [.ref wy])), (wy, .inl (cW, 181, .inr (.inl o0_74)))] H ∧ va_D A [(h0, .inr (7, [.ref tp, .ref sc, .ref rd, .ref cu, .ref im, .ref ig, .ref sl, .ref se, .ref sm, .ref fc])), (sm, .inr (5, [.ref wy])), (wy, .inl (cW, 181, .inr (.inl o0_74)))] ∧ va_S A s.heap H locs ∧ lv_has ls 5 [(4, .int v.1), (3, .int v.2), (0, .ref h0), (1, .int a1), (2, .int a2)]) (fun v H locs ls hI ih_25_130 => ?_) ((1 : Int32), (0 : Int32)) ⟨(show (1 : Int) ≤ (1 : Int32).toInt ∧ (1 : Int32).toInt ≤ 181 from (rg_w (by decide : (1 : Int) ≤ (1 : Int32).toInt ∧ (1 : Int32).toInt ≤ 1) (by decide) (by decide))), (show (0 : Int) ≤ (0 : Int32).toInt ∧ (0 : Int32).toInt ≤ 255 from (rg_w (by decide : (0 : Int) ≤ (0 : Int32).toInt ∧ (0 : Int32).toInt ≤ 0) (by decide) (by decide))), hP, hD, hS, lv_sub hl [0, 1, 2, 3, 4] rfl⟩
    obtain ⟨y_81, y_82⟩ := v
    obtain ⟨b_y_81, b_y_82, hP, hD, hS, hl⟩ := hI
    have b_y_81 : (1 : Int) ≤ y_81.toInt ∧ y_81.toInt ≤ 181 := b_y_81
    have b_y_82 : (0 : Int) ≤ y_82.toInt ∧ y_82.toInt ≤ 255 := b_y_82
    have hP : va_P (dC, dI) vwCl [(h0, .inr (7, [.ref tp, .ref sc, .ref rd, .ref cu, .ref im, .ref ig, .ref sl, .ref se, .ref sm, .ref fc])), (sm, .inr (5, [.ref wy])), (wy, .inl (cW, 181, .inr (.inl o0_74)))] H := hP
    have hD : va_D A [(h0, .inr (7, [.ref tp, .ref sc, .ref rd, .ref cu, .ref im, .ref ig, .ref sl, .ref se, .ref sm, .ref fc])), (sm, .inr (5, [.ref wy])), (wy, .inl (cW, 181, .inr (.inl o0_74)))] := hD
    have hl : lv_has ls 5 [(4, .int y_81), (3, .int y_82), (0, .ref h0), (1, .int a1), (2, .int a2)] := hl
    refine lv_iload hx hb dX9_most_25 (lv_at hl 0 rfl) ?_
    refine lv_sipush (v := 180) hx hb dX9_most_27 (by decide) ?_
    refine lv_icmp_gt (tgt := 63) hx hb dX9_most_30 (by decide) (fun c_131 => ?_) (fun c_131 => ?_)
    ·
      have n_c_131 : (180 : Int) < y_81.toInt := c_gt rfl (by decide) c_131
      have b_y_81 : (181 : Int) ≤ y_81.toInt ∧ y_81.toInt ≤ 181 := r_lt2 (by decide : (180 : Int) ≤ (180 : Int32).toInt ∧ (180 : Int32).toInt ≤ 180) b_y_81 n_c_131 (by decide)
      refine lv_iload_n hx hb dX9_most_63 rfl (lv_at hl 1 rfl) ?_
      have hP9 := hP.sub (ws' := [(h0, .inr (7, [.ref tp, .ref sc, .ref rd, .ref cu, .ref im, .ref ig, .ref sl, .ref se, .ref sm, .ref fc])), (sm, .inr (5, [.ref wy])), (wy, .inl (cW, 181, .inr (.inl o0_74)))]) [0, 1, 2] rfl
      have hD9 := hD.sub (ws' := [(h0, .inr (7, [.ref tp, .ref sc, .ref rd, .ref cu, .ref im, .ref ig, .ref sl, .ref se, .ref sm, .ref fc])), (sm, .inr (5, [.ref wy])), (wy, .inl (cW, 181, .inr (.inl o0_74)))]) [0, 1, 2] (by decide) rfl
      have hK9 := hK.sub (tys' := [(cW, .long)]) [0] rfl
      exact W.iret (v := y_82) hx hb hr (fun t ht hW => ⟨⟨y_82, (), rfl, (rg_w b_y_82 (by decide) (by decide)), o0_74, by rw [ht]; exact hP9, va_K.moved hW.alike hK9, hD9⟩, hS.F ht⟩) hS.2.2 dX9_most_64
    ·
      have n_c_131 : (y_81.toInt : Int) ≤ 180 := c_ngt rfl (by decide) c_131
      have b_y_81 : (1 : Int) ≤ y_81.toInt ∧ y_81.toInt ≤ 180 := r_le1 b_y_81 (by decide : (180 : Int) ≤ (180 : Int32).toInt ∧ (180 : Int32).toInt ≤ 180) n_c_131 (by decide)
      refine lv_aload_n hx hb dX9_most_33 rfl (lv_at hl 2 rfl) ?_
      refine va_get (D := (dC, dI)) (ci := 7) (v := .ref sm) (C := RX9) (T := TX9) (N := 10) hx hb hts iX9_most_X9 hown hK hP 0 rfl rfl 8 (by decide) (hts (.fieldLink RX9 64 "LuckyTicket" "sumTable" "LLuckyTicket$SumTable;") (List.mem_of_getElem? (i := 4) rfl)) (fun _ h9 => h9) rfl dX9_most_34 ?_
      refine lv_iload hx hb dX9_most_37 (lv_at hl 0 rfl) ?_
      refine vp_callSl (W.runV (As := [.int y_81]) (rest := []) ⟨hx, hb, hml, hown, hts⟩ (kX6_waysTo l dC dI sm wy cW o0_74 y_81 ) (cwV 1 hts gX9_most__X6_waysTo_V324 rfl rfl rfl hd_yX6_waysTo ⟨lel 1 2 rfl, lel 21 47 rfl⟩) ⟨pw_fb, rcv_X6 hK hP (q0 := 1) rfl, (pw_use hP hK hN [1, 2] rfl [0] rfl)⟩ rfl rfl hl.1 rfl (lv_room (Nat.le_of_ble_eq_true rfl)) dX9_most_39 ⟨lel 0 0 rfl, lel 0 0 rfl⟩) (fun r_132 h_r_132 => ?_)
      refine lv_aload_n hx hb dX9_most_42 rfl (lv_at hl 2 rfl) ?_
      refine va_get (D := (dC, dI)) (ci := 7) (v := .ref sm) (C := RX9) (T := TX9) (N := 10) hx hb hts iX9_most_X9 hown hK hP 0 rfl rfl 8 (by decide) (hts (.fieldLink RX9 64 "LuckyTicket" "sumTable" "LLuckyTicket$SumTable;") (List.mem_of_getElem? (i := 4) rfl)) (fun _ h9 => h9) rfl dX9_most_43 ?_
      refine lv_iload_n hx hb dX9_most_46 rfl (lv_at hl 1 rfl) ?_
      refine vp_callSl (W.runV (As := [.int y_82]) (rest := [.long r_132]) ⟨hx, hb, hml, hown, hts⟩ (kX6_waysTo l dC dI sm wy cW o0_74 y_82 ) (cwV 1 hts gX9_most__X6_waysTo_V324 rfl rfl rfl hd_yX6_waysTo ⟨lel 1 2 rfl, lel 21 47 rfl⟩) ⟨pw_fb, rcv_X6 hK hP (q0 := 1) rfl, (pw_use hP hK hN [1, 2] rfl [0] rfl)⟩ rfl rfl hl.1 rfl (lv_room (Nat.le_of_ble_eq_true rfl)) dX9_most_47 ⟨lel 0 0 rfl, lel 0 0 rfl⟩) (fun r_133 h_r_133 => ?_)
      refine W.lcmp hx hb dX9_most_50 ?_
      refine cutW (σ := Int32) (pc2 := 57) (st2 := fun v => []) (cells2 := 0) (slots2 := 0) (fun v H locs ls => ((0 : Int) ≤ v.toInt ∧ v.toInt ≤ 255) ∧ va_P (dC, dI) vwCl [(h0, .inr (7, [.ref tp, .ref sc, .ref rd, .ref cu, .ref im, .ref ig, .ref sl, .ref se, .ref sm, .ref fc])), (sm, .inr (5, [.ref wy])), (wy, .inl (cW, 181, .inr (.inl o0_74)))] H ∧ va_D A [(h0, .inr (7, [.ref tp, .ref sc, .ref rd, .ref cu, .ref im, .ref ig, .ref sl, .ref se, .ref sm, .ref fc])), (sm, .inr (5, [.ref wy])), (wy, .inl (cW, 181, .inr (.inl o0_74)))] ∧ va_S A s.heap H locs ∧ lv_has ls 5 [(4, .int y_81), (3, .int v), (0, .ref h0), (1, .int a1), (2, .int a2)]) (fun v H locs ls hI => ?_) (fun hj_57_135 => ?_)
      ·
        obtain ⟨y_135, rfl⟩ : ∃ z, z = v := ⟨_, rfl⟩
        obtain ⟨b_y_135, hP, hD, hS, hl⟩ := hI
        have b_y_135 : (0 : Int) ≤ y_135.toInt ∧ y_135.toInt ≤ 255 := b_y_135
        have hP : va_P (dC, dI) vwCl [(h0, .inr (7, [.ref tp, .ref sc, .ref rd, .ref cu, .ref im, .ref ig, .ref sl, .ref se, .ref sm, .ref fc])), (sm, .inr (5, [.ref wy])), (wy, .inl (cW, 181, .inr (.inl o0_74)))] H := hP
        have hD : va_D A [(h0, .inr (7, [.ref tp, .ref sc, .ref rd, .ref cu, .ref im, .ref ig, .ref sl, .ref se, .ref sm, .ref fc])), (sm, .inr (5, [.ref wy])), (wy, .inl (cW, 181, .inr (.inl o0_74)))] := hD
        have hl : lv_has ls 5 [(4, .int y_81), (3, .int y_135), (0, .ref h0), (1, .int a1), (2, .int a2)] := hl
        obtain ⟨z_136, e_z_136⟩ : ∃ y : Int32, y = y_81 + 1 := ⟨_, rfl⟩
        refine lv_iinc (v := z_136) (lv' := [(4, .int z_136), (3, .int y_135), (0, .ref h0), (1, .int a1), (2, .int a2)]) hx hb dX9_most_57 hl (k := 0) rfl (by rw [e_z_136]; rfl) (by decide) rfl (fun ls hl => ?_)
        obtain ⟨q_z_136, b_z_136⟩ := ti_add (lo := 2) (hi := 181) e_z_136 rfl (by decide : (1 : Int32).toInt = 1) b_y_81 (by decide : (1 : Int) ≤ (1 : Int32).toInt ∧ (1 : Int32).toInt ≤ 1) (by decide)
        refine lv_goto (tgt := 25) hx hb dX9_most_60 (by decide) ?_
        exact ih_25_130 (z_136, y_135) _ _ _ ⟨(show (1 : Int) ≤ z_136.toInt ∧ z_136.toInt ≤ 181 from (rg_w b_z_136 (by decide) (by decide))), (show (0 : Int) ≤ y_135.toInt ∧ y_135.toInt ≤ 255 from b_y_135), hP, hD, hS, lv_sub hl [0, 1, 2, 3, 4] rfl⟩ (show (181 - z_136.toInt).toNat < (181 - y_81.toInt).toNat by omega)
      ·
        refine lv_if_le (tgt := 57) hx hb dX9_most_51 (by decide) (fun c_134 => ?_) (fun c_134 => ?_)
        ·
          have n_c_134 : (r_132.toInt : Int) ≤ r_133.toInt := g_le rfl rfl c_134
          exact hj_57_135 y_82 _ _ _ ⟨(show (0 : Int) ≤ y_82.toInt ∧ y_82.toInt ≤ 255 from b_y_82), hP, hD, hS, lv_sub hl [0, 1, 2, 3, 4] rfl⟩
        ·
          have n_c_134 : (r_133.toInt : Int) < r_132.toInt := g_nle rfl rfl c_134
          have b_r_133 : (-9223372036854775808 : Int) ≤ r_133.toInt ∧ r_133.toInt ≤ 9223372036854775806 := r_lt1 (tl_rng r_133) (tl_rng r_132) n_c_134 (by decide)
          have b_r_132 : (-9223372036854775807 : Int) ≤ r_132.toInt ∧ r_132.toInt ≤ 9223372036854775807 := r_lt2 (tl_rng r_133) (tl_rng r_132) n_c_134 (by decide)
          refine lv_iload hx hb dX9_most_54 (lv_at hl 0 rfl) ?_
          refine lv_istore_n (lv' := [(3, .int y_81), (4, .int y_81), (0, .ref h0), (1, .int a1), (2, .int a2)]) hx hb dX9_most_56 rfl hl (by decide) rfl (fun ls hl => ?_)
          exact hj_57_135 y_81 _ _ _ ⟨(show (0 : Int) ≤ y_81.toInt ∧ y_81.toInt ≤ 255 from (rg_w b_y_81 (by decide) (by decide))), hP, hD, hS, lv_sub hl [1, 0, 2, 3, 4] rfl⟩
  ·
    have n_c_70 : (r_69.toInt : Int) = 0 := c_eq rfl (by decide) c_70
    have b_r_69 : (0 : Int) ≤ r_69.toInt ∧ r_69.toInt ≤ 0 := r_eq1 b_r_69 (by decide : (0 : Int) ≤ (0 : Int32).toInt ∧ (0 : Int32).toInt ≤ 0) n_c_70 (by decide)
    refine lv_bipush (v := (-2)) hx hb dX9_most_8 (by decide) ?_
    have hP9 := hP.sub (ws' := [(h0, .inr (7, [.ref tp, .ref sc, .ref rd, .ref cu, .ref im, .ref ig, .ref sl, .ref se, .ref sm, .ref fc])), (sm, .inr (5, [.ref wy])), (wy, .inl (cW, 181, .inr (.inl fw)))]) [0, 1, 2] rfl
    have hD9 := hD.sub (ws' := [(h0, .inr (7, [.ref tp, .ref sc, .ref rd, .ref cu, .ref im, .ref ig, .ref sl, .ref se, .ref sm, .ref fc])), (sm, .inr (5, [.ref wy])), (wy, .inl (cW, 181, .inr (.inl fw)))]) [0, 1, 2] (by decide) rfl
    have hK9 := hK.sub (tys' := [(cW, .long)]) [0] rfl
    exact W.iret (v := (-2)) hx hb hr (fun t ht hW => ⟨⟨(-2), (), rfl, (rg_w (by decide : (-2 : Int) ≤ ((-2) : Int32).toInt ∧ ((-2) : Int32).toInt ≤ -2) (by decide) (by decide)), fw, by rw [ht]; exact hP9, va_K.moved hW.alike hK9, hD9⟩, hS.F ht⟩) hS.2.2 dX9_most_10
theorem dX9_dice_0 : decode cX9_dice 0 = .ok (.iload_n 1, 1) := by decide +kernel
theorem dX9_dice_1 : decode cX9_dice 1 = .ok (.iload_n 2, 1) := by decide +kernel
theorem dX9_dice_2 : decode cX9_dice 2 = .ok (.invokestatic 318, 3) := by decide +kernel
theorem dX9_dice_5 : decode cX9_dice 5 = .ok (.ifCond .eq 14, 3) := by decide +kernel
theorem dX9_dice_8 : decode cX9_dice 8 = .ok (.iload_n 3, 1) := by decide +kernel
theorem dX9_dice_9 : decode cX9_dice 9 = .ok (.iconst 0, 1) := by decide +kernel
theorem dX9_dice_10 : decode cX9_dice 10 = .ok (.sipush 200, 3) := by decide +kernel
theorem dX9_dice_13 : decode cX9_dice 13 = .ok (.invokestatic 158, 3) := by decide +kernel
theorem dX9_dice_16 : decode cX9_dice 16 = .ok (.ifCond .ne 7, 3) := by decide +kernel
theorem dX9_dice_19 : decode cX9_dice 19 = .ok (.ldc2_w 265, 3) := by decide +kernel
theorem dX9_dice_22 : decode cX9_dice 22 = .ok (.lreturn, 1) := by decide +kernel
theorem dX9_dice_23 : decode cX9_dice 23 = .ok (.aload_n 0, 1) := by decide +kernel
theorem dX9_dice_24 : decode cX9_dice 24 = .ok (.getfield 64, 3) := by decide +kernel
theorem dX9_dice_27 : decode cX9_dice 27 = .ok (.iload_n 1, 1) := by decide +kernel
theorem dX9_dice_28 : decode cX9_dice 28 = .ok (.iload_n 2, 1) := by decide +kernel
theorem dX9_dice_29 : decode cX9_dice 29 = .ok (.invokevirtual 321, 3) := by decide +kernel
theorem dX9_dice_32 : decode cX9_dice 32 = .ok (.aload_n 0, 1) := by decide +kernel
theorem dX9_dice_33 : decode cX9_dice 33 = .ok (.getfield 64, 3) := by decide +kernel
theorem dX9_dice_36 : decode cX9_dice 36 = .ok (.iload_n 3, 1) := by decide +kernel
theorem dX9_dice_37 : decode cX9_dice 37 = .ok (.iload_n 1, 1) := by decide +kernel
theorem dX9_dice_38 : decode cX9_dice 38 = .ok (.isub, 1) := by decide +kernel
theorem dX9_dice_39 : decode cX9_dice 39 = .ok (.invokevirtual 324, 3) := by decide +kernel
theorem dX9_dice_42 : decode cX9_dice 42 = .ok (.lreturn, 1) := by decide +kernel
theorem hd_yX9_dice : yX9_dice.cls = RX9 ∧ yX9_dice.cls ≠ "java/lang/invoke/MethodHandle" ∧ yX9_dice.cls ≠ "java/lang/invoke/VarHandle" ∧ (parseMethodDescriptor yX9_dice.desc).map (fun d => d.parameters.length) = some 3 := by decide +kernel
def uX9_dice : List Cond := List.cons (.code yX9_dice cX9_dice 4 (some .long)) (HAppend.hAppend ([.methodLink RX9 318 yX9_isLong, .static yX9_isLong, .initialized RX9, .constantLong RX9 265 (-2), .methodLink RX9 158 yX9_isWithin, .static yX9_isWithin, .fieldLink RX9 64 "LuckyTicket" "sumTable" "LLuckyTicket$SumTable;", .methodLink RX9 321 yX6_fill, .instanceMethod yX6_fill, .selects RX6 yX6_fill yX6_fill, .initialized RX6, .methodLink RX9 324 yX6_waysTo, .instanceMethod yX6_waysTo, .selects RX6 yX6_waysTo yX6_waysTo] : List Cond) (HAppend.hAppend uX9_isLong (HAppend.hAppend uX9_isWithin (HAppend.hAppend uX6_fill (HAppend.hAppend uX6_waysTo wsX90)))))
theorem iX9_dice_X9 : ∀ w ∈ wsX90, w ∈ uX9_dice := fun _ h => (List.mem_cons_of_mem _ (List.mem_append_right _ (List.mem_append_right _ (List.mem_append_right _ (List.mem_append_right _ (List.mem_append_right _ h))))))
theorem guX9_dice : GU uX9_dice := gu_cons (gu_app (by decide +kernel) (gu_ap guX9_isLong (gu_ap guX9_isWithin (gu_ap guX6_fill (gu_ap guX6_waysTo gws_X9)))))
theorem gX9_dice__X9_isLong_S318 : GoodIn uX9_dice (va_wsS RX9 318 yX9_isLong uX9_isLong) := gin_S (List.mem_of_getElem? (i := 1) rfl) (List.mem_of_getElem? (i := 2) rfl) (List.mem_of_getElem? (i := 3) rfl) (fun _ h => (List.mem_cons_of_mem _ (List.mem_append_right _ (List.mem_append_left _ h)))) guX9_isLong
theorem gX9_dice__X9_isWithin_S158 : GoodIn uX9_dice (va_wsS RX9 158 yX9_isWithin uX9_isWithin) := gin_S (List.mem_of_getElem? (i := 5) rfl) (List.mem_of_getElem? (i := 6) rfl) (List.mem_of_getElem? (i := 3) rfl) (fun _ h => (List.mem_cons_of_mem _ (List.mem_append_right _ (List.mem_append_right _ (List.mem_append_left _ h))))) guX9_isWithin
theorem gX9_dice__X6_fill_V321 : GoodIn uX9_dice (wsV RX9 321 RX6 yX6_fill uX6_fill) := gin_V (List.mem_of_getElem? (i := 8) rfl) (List.mem_of_getElem? (i := 9) rfl) (List.mem_of_getElem? (i := 10) rfl) (List.mem_of_getElem? (i := 11) rfl) (fun _ h => (List.mem_cons_of_mem _ (List.mem_append_right _ (List.mem_append_right _ (List.mem_append_right _ (List.mem_append_left _ h)))))) guX6_fill
theorem gX9_dice__X6_waysTo_V324 : GoodIn uX9_dice (wsV RX9 324 RX6 yX6_waysTo uX6_waysTo) := gin_V (List.mem_of_getElem? (i := 12) rfl) (List.mem_of_getElem? (i := 13) rfl) (List.mem_of_getElem? (i := 14) rfl) (List.mem_of_getElem? (i := 11) rfl) (fun _ h => (List.mem_cons_of_mem _ (List.mem_append_right _ (List.mem_append_right _ (List.mem_append_right _ (List.mem_append_right _ (List.mem_append_left _ h))))))) guX6_waysTo
set_option maxHeartbeats 4000000 in
set_option maxRecDepth 100000 in
theorem kX9_dice (l : Launch) (dC : Nat → ClassId) (dI : Nat → Nat → Nat) (h0 : Nat) (tp : Nat) (sc : Nat) (rd : Nat) (cu : Nat) (im : Nat) (ig : Nat) (sl : Nat) (se : Nat) (fc : Nat) (sm : Nat) (wy : Nat) (cW : ClassId) (fw : Nat → Int64) (a1 : Int32) (a2 : Int32) (a3 : Int32) (sz : Nat) : Met l yX9_dice uX9_dice ({ frames := 2, cells := 0, slots := 0, locals := 47 }) (va_Pc [.ref h0, .int a1, .int a2, .int a3] (hw (dC, dI) vwCl [(h0, .inr (7, [.ref tp, .ref sc, .ref rd, .ref cu, .ref im, .ref ig, .ref sl, .ref se, .ref sm, .ref fc])), (sm, .inr (5, [.ref wy])), (wy, .inl (cW, 181, .inr (.inl fw)))] [(cW, .long)] sz)) (va_Ql (fun (r : Int64) (_ : Unit) => True) (fun (_ : Unit) t => ∃ (o0_ : Nat → Int64), va_P (dC, dI) vwCl [(h0, .inr (7, [.ref tp, .ref sc, .ref rd, .ref cu, .ref im, .ref ig, .ref sl, .ref se, .ref sm, .ref fc])), (sm, .inr (5, [.ref wy])), (wy, .inl (cW, 181, .inr (.inl o0_)))] t.heap ∧ va_K (dC, dI) vwCl [(cW, .long)] t ∧ va_D (va_A [(h0, .inr (7, [.ref tp, .ref sc, .ref rd, .ref cu, .ref im, .ref ig, .ref sl, .ref se, .ref sm, .ref fc])), (sm, .inr (5, [.ref wy])), (wy, .inl (cW, 181, .inr (.inl fw)))] sz) [(h0, .inr (7, [.ref tp, .ref sc, .ref rd, .ref cu, .ref im, .ref ig, .ref sl, .ref se, .ref sm, .ref fc])), (sm, .inr (5, [.ref wy])), (wy, .inl (cW, 181, .inr (.inl o0_)))]) (va_A [(h0, .inr (7, [.ref tp, .ref sc, .ref rd, .ref cu, .ref im, .ref ig, .ref sl, .ref se, .ref sm, .ref fc])), (sm, .inr (5, [.ref wy])), (wy, .inl (cW, 181, .inr (.inl fw)))] sz)) 0 0 (va_A [(h0, .inr (7, [.ref tp, .ref sc, .ref rd, .ref cu, .ref im, .ref ig, .ref sl, .ref se, .ref sm, .ref fc])), (sm, .inr (5, [.ref wy])), (wy, .inl (cW, 181, .inr (.inl fw)))] sz) := by
  refine Met.ofW (cc := cX9_dice) (maxL := 4) (ret := (some .long)) pn_X9 rfl ?_
  intro p e s m args below meth c s₁ B hml hv
  obtain ⟨rfl, hsz, hP, hK, hD0, hN⟩ := hv
  have hx := B.exec
  have hb := B.bytes
  have hr := B.returns
  have hts := atoms_spec (ws := uX9_dice) B.pre
  have hown : s.vm.findClass RX9 = some m.cls := hown_of B.named rfl
  have hlocks := B.notSynchronized
  subst hsz
  have hD := hD0.self (sz := s.heap.size)
  generalize hAe : va_A [(h0, .inr (7, [.ref tp, .ref sc, .ref rd, .ref cu, .ref im, .ref ig, .ref sl, .ref se, .ref sm, .ref fc])), (sm, .inr (5, [.ref wy])), (wy, .inl (cW, 181, .inr (.inl fw)))] s.heap.size = A at hD ⊢
  have hA : ∀ q : Nat, s.heap.size ≤ q → A q := fun q h => by rw [← hAe]; exact Or.inr h
  have hS : va_S A s.heap s.heap [] := va_S.rf
  have hP : va_P (dC, dI) vwCl [(h0, .inr (7, [.ref tp, .ref sc, .ref rd, .ref cu, .ref im, .ref ig, .ref sl, .ref se, .ref sm, .ref fc])), (sm, .inr (5, [.ref wy])), (wy, .inl (cW, 181, .inr (.inl fw)))] s.heap := hP
  have hl := lv_entry ([.ref h0, .int a1, .int a2, .int a3]) (n := 4) (Nat.le_of_ble_eq_true rfl)
  rw [lg_entry_eq]
  generalize (lg_sl ([.ref h0, .int a1, .int a2, .int a3]) ++ List.replicate (4 - (lg_sl ([.ref h0, .int a1, .int a2, .int a3])).length) Slot.unset).toArray = ls at hl ⊢
  have hl : lv_has ls 4 [(0, .ref h0), (1, .int a1), (2, .int a2), (3, .int a3)] := hl
  refine lv_iload_n hx hb dX9_dice_0 rfl (lv_at hl 1 rfl) ?_
  refine lv_iload_n hx hb dX9_dice_1 rfl (lv_at hl 2 rfl) ?_
  refine vp_callSi (W.runS (As := [.int a1, .int a2]) (rest := []) ⟨hx, hb, hml, hown, hts⟩ (kX9_isLong l dC dI a1 a2 ) (va_cwS 2 hts gX9_dice__X9_isLong_S318 rfl rfl rfl hd_yX9_isLong.2 ⟨lel 2 2 rfl, lel 43 47 rfl⟩) ⟨pn_fb, pn_use⟩ rfl rfl hl.1 rfl (lv_room (Nat.le_of_ble_eq_true rfl)) dX9_dice_2 ⟨lel 0 0 rfl, lel 0 0 rfl⟩) (fun r_12 h_r_12 => ?_)
  obtain ⟨b_r_12, nz_r_12⟩ := h_r_12
  have b_r_12 : (0 : Int) ≤ r_12.toInt ∧ r_12.toInt ≤ 1 := b_r_12
  refine lv_if_eq (tgt := 19) hx hb dX9_dice_5 (by decide) (fun c_13 => ?_) (fun c_13 => ?_)
  ·
    have n_c_13 : (r_12.toInt : Int) = 0 := c_eq rfl (by decide) c_13
    have b_r_12 : (0 : Int) ≤ r_12.toInt ∧ r_12.toInt ≤ 0 := r_eq1 b_r_12 (by decide : (0 : Int) ≤ (0 : Int32).toInt ∧ (0 : Int32).toInt ≤ 0) n_c_13 (by decide)
    refine lv_ldc2 (v := (-2)) hx hb hown (hts (.constantLong RX9 265 (-2)) (List.mem_of_getElem? (i := 4) rfl)) dX9_dice_19 ?_
    have hP9 := hP.sub (ws' := [(h0, .inr (7, [.ref tp, .ref sc, .ref rd, .ref cu, .ref im, .ref ig, .ref sl, .ref se, .ref sm, .ref fc])), (sm, .inr (5, [.ref wy])), (wy, .inl (cW, 181, .inr (.inl fw)))]) [0, 1, 2] rfl
    have hD9 := hD.sub (ws' := [(h0, .inr (7, [.ref tp, .ref sc, .ref rd, .ref cu, .ref im, .ref ig, .ref sl, .ref se, .ref sm, .ref fc])), (sm, .inr (5, [.ref wy])), (wy, .inl (cW, 181, .inr (.inl fw)))]) [0, 1, 2] (by decide) rfl
    have hK9 := hK.sub (tys' := [(cW, .long)]) [0] rfl
    exact W.lret (v := (-2)) hx hb hr (fun t ht hW => ⟨⟨(-2), (), rfl, trivial, fw, by rw [ht]; exact hP9, va_K.moved hW.alike hK9, hD9⟩, hS.F ht⟩) hS.2.2 dX9_dice_22
  ·
    have n_c_13 : (r_12.toInt : Int) ≠ 0 := c_ne rfl (by decide) c_13
    have b_r_12 : (1 : Int) ≤ r_12.toInt ∧ r_12.toInt ≤ 1 := r_ne1 b_r_12 (by decide : (0 : Int) ≤ (0 : Int32).toInt ∧ (0 : Int32).toInt ≤ 0) n_c_13 (by decide)
    obtain ⟨b_a1, b_a2, g_14⟩ := nz_r_12 c_13
    refine lv_iload_n hx hb dX9_dice_8 rfl (lv_at hl 3 rfl) ?_
    refine lv_iconst (v := 0) hx hb dX9_dice_9 (by decide) ?_
    refine lv_sipush (v := 200) hx hb dX9_dice_10 (by decide) ?_
    refine vp_callSi (W.runS (As := [.int a3, .int 0, .int 200]) (rest := []) ⟨hx, hb, hml, hown, hts⟩ (kX9_isWithin l dC dI a3 0 200 ) (va_cwS 3 hts gX9_dice__X9_isWithin_S158 rfl rfl rfl hd_yX9_isWithin.2 ⟨lel 1 2 rfl, lel 22 47 rfl⟩) ⟨pn_fb, pn_use⟩ rfl rfl hl.1 rfl (lv_room (Nat.le_of_ble_eq_true rfl)) dX9_dice_13 ⟨lel 0 0 rfl, lel 0 0 rfl⟩) (fun r_15 h_r_15 => ?_)
    obtain ⟨b_r_15, nz_r_15⟩ := h_r_15
    have b_r_15 : (0 : Int) ≤ r_15.toInt ∧ r_15.toInt ≤ 1 := b_r_15
    refine lv_if_ne (tgt := 23) hx hb dX9_dice_16 (by decide) (fun c_16 => ?_) (fun c_16 => ?_)
    ·
      have n_c_16 : (r_15.toInt : Int) ≠ 0 := c_ne rfl (by decide) c_16
      have b_r_15 : (1 : Int) ≤ r_15.toInt ∧ r_15.toInt ≤ 1 := r_ne1 b_r_15 (by decide : (0 : Int) ≤ (0 : Int32).toInt ∧ (0 : Int32).toInt ≤ 0) n_c_16 (by decide)
      have g_17 := nz_r_15 c_16
      have lt0_g_17 := (by decide : (0 : Int32).toInt = 0)
      have lt1_g_17 := (by decide : (200 : Int32).toInt = 200)
      have b_a3 : (0 : Int) ≤ a3.toInt ∧ a3.toInt ≤ 200 := by
        have q0 := (ti_rng a3)
        have q1 := (by decide : (0 : Int) ≤ (0 : Int32).toInt ∧ (0 : Int32).toInt ≤ 0)
        have q2 := (by decide : (200 : Int) ≤ (200 : Int32).toInt ∧ (200 : Int32).toInt ≤ 200)
        omega
      refine lv_aload_n hx hb dX9_dice_23 rfl (lv_at hl 0 rfl) ?_
      refine va_get (D := (dC, dI)) (ci := 7) (v := .ref sm) (C := RX9) (T := TX9) (N := 10) hx hb hts iX9_dice_X9 hown hK hP 0 rfl rfl 8 (by decide) (hts (.fieldLink RX9 64 "LuckyTicket" "sumTable" "LLuckyTicket$SumTable;") (List.mem_of_getElem? (i := 7) rfl)) (fun _ h9 => h9) rfl dX9_dice_24 ?_
      refine lv_iload_n hx hb dX9_dice_27 rfl (lv_at hl 1 rfl) ?_
      refine lv_iload_n hx hb dX9_dice_28 rfl (lv_at hl 2 rfl) ?_
      have hFc := va_free (wc := [(sm, .inr (5, [.ref wy])), (wy, .inl (cW, 181, .inr (.inl fw)))]) hD hS hA [1, 2] rfl
      refine va_callv (va_runV (As := [.int a1, .int a2]) (rest := []) ⟨hx, hb, hml, hown, hts⟩ (kX6_fill l dC dI sm wy cW fw a1 a2 (s.heap.size) (rg_w b_a1 (by decide) (by decide)) b_a2) (cwV 2 hts gX9_dice__X6_fill_V321 rfl rfl rfl hd_yX6_fill ⟨lel 2 2 rfl, lel 47 47 rfl⟩) ⟨hw_fb, rcv_X6 hK hP (q0 := 1) rfl, (hw_use hP hD hK hN [1, 2] rfl (by decide) rfl [0] rfl)⟩ rfl rfl hl.1 rfl (lv_room (Nat.le_of_ble_eq_true rfl)) dX9_dice_29 ⟨lel 0 0 rfl, lel 0 0 rfl⟩) hS (fun q _ h => hFc q h) hFc (fun u_19 t H1 locs ht hvm hw_r_18 hB hz1 hk1 hS => ?_)
      obtain ⟨o0_20, hP1, hK1, hD1⟩ := hB
      rw [ht] at hP1
      have hK1 := va_K.moved hvm.symm hK1
      obtain ⟨hP, hD⟩ := va_join (wr := [(h0, .inr (7, [.ref tp, .ref sc, .ref rd, .ref cu, .ref im, .ref ig, .ref sl, .ref se, .ref sm, .ref fc]))]) (w1 := [(sm, .inr (5, [.ref wy])), (wy, .inl (cW, 181, .inr (.inl o0_20)))]) hP hD [1, 2] [0] rfl rfl (by decide) (by decide) hk1 hFc hP1 hD1
      have hK := (hK.sub (tys' := []) [] rfl).app hK1
      generalize H1 = H at hP hS ⊢
      have hP : va_P (dC, dI) vwCl [(h0, .inr (7, [.ref tp, .ref sc, .ref rd, .ref cu, .ref im, .ref ig, .ref sl, .ref se, .ref sm, .ref fc])), (sm, .inr (5, [.ref wy])), (wy, .inl (cW, 181, .inr (.inl o0_20)))] H := hP
      have hD : va_D A [(h0, .inr (7, [.ref tp, .ref sc, .ref rd, .ref cu, .ref im, .ref ig, .ref sl, .ref se, .ref sm, .ref fc])), (sm, .inr (5, [.ref wy])), (wy, .inl (cW, 181, .inr (.inl o0_20)))] := hD
      have hK : va_K (dC, dI) vwCl [(cW, .long)] s := hK
      refine lv_aload_n hx hb dX9_dice_32 rfl (lv_at hl 0 rfl) ?_
      refine va_get (D := (dC, dI)) (ci := 7) (v := .ref sm) (C := RX9) (T := TX9) (N := 10) hx hb hts iX9_dice_X9 hown hK hP 0 rfl rfl 8 (by decide) (hts (.fieldLink RX9 64 "LuckyTicket" "sumTable" "LLuckyTicket$SumTable;") (List.mem_of_getElem? (i := 7) rfl)) (fun _ h9 => h9) rfl dX9_dice_33 ?_
      refine lv_iload_n hx hb dX9_dice_36 rfl (lv_at hl 3 rfl) ?_
      refine lv_iload_n hx hb dX9_dice_37 rfl (lv_at hl 1 rfl) ?_
      refine lv_isub hx hb dX9_dice_38 ?_
      refine lv_topi (fun z_21 e_z_21 => ?_)
      obtain ⟨q_z_21, b_z_21⟩ := ti_sub (lo := -12) (hi := 199) e_z_21 rfl rfl b_a3 b_a1 (by decide)
      refine vp_callSl (W.runV (As := [.int z_21]) (rest := []) ⟨hx, hb, hml, hown, hts⟩ (kX6_waysTo l dC dI sm wy cW o0_20 z_21 ) (cwV 1 hts gX9_dice__X6_waysTo_V324 rfl rfl rfl hd_yX6_waysTo ⟨lel 1 2 rfl, lel 21 47 rfl⟩) ⟨pw_fb, rcv_X6 hK hP (q0 := 1) rfl, (pw_use hP hK hN [1, 2] rfl [0] rfl)⟩ rfl rfl hl.1 rfl (lv_room (Nat.le_of_ble_eq_true rfl)) dX9_dice_39 ⟨lel 0 0 rfl, lel 0 0 rfl⟩) (fun r_22 h_r_22 => ?_)
      have hP9 := hP.sub (ws' := [(h0, .inr (7, [.ref tp, .ref sc, .ref rd, .ref cu, .ref im, .ref ig, .ref sl, .ref se, .ref sm, .ref fc])), (sm, .inr (5, [.ref wy])), (wy, .inl (cW, 181, .inr (.inl o0_20)))]) [0, 1, 2] rfl
      have hD9 := hD.sub (ws' := [(h0, .inr (7, [.ref tp, .ref sc, .ref rd, .ref cu, .ref im, .ref ig, .ref sl, .ref se, .ref sm, .ref fc])), (sm, .inr (5, [.ref wy])), (wy, .inl (cW, 181, .inr (.inl o0_20)))]) [0, 1, 2] (by decide) rfl
      have hK9 := hK.sub (tys' := [(cW, .long)]) [0] rfl
      exact W.lret (v := r_22) hx hb hr (fun t ht hW => ⟨⟨r_22, (), rfl, trivial, o0_20, by rw [ht]; exact hP9, va_K.moved hW.alike hK9, hD9⟩, hS.F ht⟩) hS.2.2 dX9_dice_42
    ·
      have n_c_16 : (r_15.toInt : Int) = 0 := c_eq rfl (by decide) c_16
      have b_r_15 : (0 : Int) ≤ r_15.toInt ∧ r_15.toInt ≤ 0 := r_eq1 b_r_15 (by decide : (0 : Int) ≤ (0 : Int32).toInt ∧ (0 : Int32).toInt ≤ 0) n_c_16 (by decide)
      refine lv_ldc2 (v := (-2)) hx hb hown (hts (.constantLong RX9 265 (-2)) (List.mem_of_getElem? (i := 4) rfl)) dX9_dice_19 ?_
      have hP9 := hP.sub (ws' := [(h0, .inr (7, [.ref tp, .ref sc, .ref rd, .ref cu, .ref im, .ref ig, .ref sl, .ref se, .ref sm, .ref fc])), (sm, .inr (5, [.ref wy])), (wy, .inl (cW, 181, .inr (.inl fw)))]) [0, 1, 2] rfl
      have hD9 := hD.sub (ws' := [(h0, .inr (7, [.ref tp, .ref sc, .ref rd, .ref cu, .ref im, .ref ig, .ref sl, .ref se, .ref sm, .ref fc])), (sm, .inr (5, [.ref wy])), (wy, .inl (cW, 181, .inr (.inl fw)))]) [0, 1, 2] (by decide) rfl
      have hK9 := hK.sub (tys' := [(cW, .long)]) [0] rfl
      exact W.lret (v := (-2)) hx hb hr (fun t ht hW => ⟨⟨(-2), (), rfl, trivial, fw, by rw [ht]; exact hP9, va_K.moved hW.alike hK9, hD9⟩, hS.F ht⟩) hS.2.2 dX9_dice_22
theorem dX4_clear_0 : decode cX4_clear 0 = .ok (.aload_n 0, 1) := by decide +kernel
theorem dX4_clear_1 : decode cX4_clear 1 = .ok (.iconst 0, 1) := by decide +kernel
theorem dX4_clear_2 : decode cX4_clear 2 = .ok (.putfield 27, 3) := by decide +kernel
theorem dX4_clear_5 : decode cX4_clear 5 = .ok (.aload_n 0, 1) := by decide +kernel
theorem dX4_clear_6 : decode cX4_clear 6 = .ok (.iconst 0, 1) := by decide +kernel
theorem dX4_clear_7 : decode cX4_clear 7 = .ok (.putfield 31, 3) := by decide +kernel
theorem dX4_clear_10 : decode cX4_clear 10 = .ok (.aload_n 0, 1) := by decide +kernel
theorem dX4_clear_11 : decode cX4_clear 11 = .ok (.iconst 0, 1) := by decide +kernel
theorem dX4_clear_12 : decode cX4_clear 12 = .ok (.putfield 34, 3) := by decide +kernel
theorem dX4_clear_15 : decode cX4_clear 15 = .ok (.aload_n 0, 1) := by decide +kernel
theorem dX4_clear_16 : decode cX4_clear 16 = .ok (.iconst 0, 1) := by decide +kernel
theorem dX4_clear_17 : decode cX4_clear 17 = .ok (.putfield 37, 3) := by decide +kernel
theorem dX4_clear_20 : decode cX4_clear 20 = .ok (.aload_n 0, 1) := by decide +kernel
theorem dX4_clear_21 : decode cX4_clear 21 = .ok (.iconst 0, 1) := by decide +kernel
theorem dX4_clear_22 : decode cX4_clear 22 = .ok (.putfield 40, 3) := by decide +kernel
theorem dX4_clear_25 : decode cX4_clear 25 = .ok (.return_, 1) := by decide +kernel
theorem hd_yX4_clear : yX4_clear.cls = RX4 ∧ yX4_clear.cls ≠ "java/lang/invoke/MethodHandle" ∧ yX4_clear.cls ≠ "java/lang/invoke/VarHandle" ∧ (parseMethodDescriptor yX4_clear.desc).map (fun d => d.parameters.length) = some 0 := by decide +kernel
def uX4_clear : List Cond := List.cons (.code yX4_clear cX4_clear 1 none) (HAppend.hAppend ([.fieldLink RX4 27 "LuckyTicket$Script" "length" "I", .fieldLink RX4 31 "LuckyTicket$Script" "base" "I", .fieldLink RX4 34 "LuckyTicket$Script" "lines" "I", .fieldLink RX4 37 "LuckyTicket$Script" "laws" "I", .fieldLink RX4 40 "LuckyTicket$Script" "size" "I"] : List Cond) wsX40)
theorem iX4_clear_X4 : ∀ w ∈ wsX40, w ∈ uX4_clear := fun _ h => (List.mem_cons_of_mem _ (List.mem_append_right _ h))
theorem guX4_clear : GU uX4_clear := gu_cons (gu_app (by decide +kernel) gws_X4)
set_option maxHeartbeats 4000000 in
set_option maxRecDepth 100000 in
theorem kX4_clear (l : Launch) (dC : Nat → ClassId) (dI : Nat → Nat → Nat) (sc : Nat) (sn : Int32) (sb : Int32) (si : Int32) (sw : Int32) (ss : Int32) (en : Nat) (ki : Nat) (on : Nat) (ot : Nat) (sz : Nat) (b_sn : (0 : Int) ≤ sn.toInt ∧ sn.toInt ≤ 12) (b_sb : (0 : Int) ≤ sb.toInt ∧ sb.toInt ≤ 16) (b_si : (0 : Int) ≤ si.toInt ∧ si.toInt ≤ 1300) (b_sw : (0 : Int) ≤ sw.toInt ∧ sw.toInt ≤ 9) (b_ss : (0 : Int) ≤ ss.toInt ∧ ss.toInt ≤ 600) : Met l yX4_clear uX4_clear ({ frames := 0, cells := 0, slots := 0, locals := 0 }) (va_Pc [.ref sc] (hw (dC, dI) vwCl [(sc, .inr (3, [.int sn, .int sb, .int si, .int sw, .int ss, .ref en, .ref ki, .ref on, .ref ot]))] [] sz)) (va_Qv (fun (_ : Unit) => True) (fun (_ : Unit) t => va_P (dC, dI) vwCl [(sc, .inr (3, [.int 0, .int 0, .int 0, .int 0, .int 0, .ref en, .ref ki, .ref on, .ref ot]))] t.heap ∧ va_K (dC, dI) vwCl [] t ∧ va_D (va_A [(sc, .inr (3, [.int sn, .int sb, .int si, .int sw, .int ss, .ref en, .ref ki, .ref on, .ref ot]))] sz) [(sc, .inr (3, [.int 0, .int 0, .int 0, .int 0, .int 0, .ref en, .ref ki, .ref on, .ref ot]))]) (va_A [(sc, .inr (3, [.int sn, .int sb, .int si, .int sw, .int ss, .ref en, .ref ki, .ref on, .ref ot]))] sz)) 0 0 (va_A [(sc, .inr (3, [.int sn, .int sb, .int si, .int sw, .int ss, .ref en, .ref ki, .ref on, .ref ot]))] sz) := by
  refine Met.ofW (cc := cX4_clear) (maxL := 1) (ret := none) pn_X4 rfl ?_
  intro p e s m args below meth c s₁ B hml hv
  obtain ⟨rfl, hsz, hP, hK, hD0, hN⟩ := hv
  have hx := B.exec
  have hb := B.bytes
  have hr := B.returns
  have hts := atoms_spec (ws := uX4_clear) B.pre
  have hown : s.vm.findClass RX4 = some m.cls := hown_of B.named rfl
  have hlocks := B.notSynchronized
  subst hsz
  have hD := hD0.self (sz := s.heap.size)
  generalize hAe : va_A [(sc, .inr (3, [.int sn, .int sb, .int si, .int sw, .int ss, .ref en, .ref ki, .ref on, .ref ot]))] s.heap.size = A at hD ⊢
  have hA : ∀ q : Nat, s.heap.size ≤ q → A q := fun q h => by rw [← hAe]; exact Or.inr h
  have hS : va_S A s.heap s.heap [] := va_S.rf
  have hP : va_P (dC, dI) vwCl [(sc, .inr (3, [.int sn, .int sb, .int si, .int sw, .int ss, .ref en, .ref ki, .ref on, .ref ot]))] s.heap := hP
  have hl := lv_entry ([.ref sc]) (n := 1) (Nat.le_of_ble_eq_true rfl)
  rw [lg_entry_eq]
  generalize (lg_sl ([.ref sc]) ++ List.replicate (1 - (lg_sl ([.ref sc])).length) Slot.unset).toArray = ls at hl ⊢
  have hl : lv_has ls 1 [(0, .ref sc)] := hl
  refine lv_aload_n hx hb dX4_clear_0 rfl (lv_at hl 0 rfl) ?_
  refine lv_iconst (v := 0) hx hb dX4_clear_1 (by decide) ?_
  refine va_put (D := (dC, dI)) (ci := 3) (v := .int 0) (ty := .int) (C := RX4) (T := TX4) (N := 9) hx hb hts iX4_clear_X4 tyX4 tyX4_ok nmX4 hown hK hP hD hS 0 rfl rfl 0 (by decide) (hts (.fieldLink RX4 27 "LuckyTicket$Script" "length" "I") (List.mem_of_getElem? (i := 1) rfl)) (fun _ h9 => h9) rfl (by decide +kernel) rfl rfl (Nat.le_of_ble_eq_true rfl) dX4_clear_2 (fun H locs hP hD hS => ?_)
  have hP : va_P (dC, dI) vwCl [(sc, .inr (3, [.int 0, .int sb, .int si, .int sw, .int ss, .ref en, .ref ki, .ref on, .ref ot]))] H := hP
  have hD : va_D A [(sc, .inr (3, [.int 0, .int sb, .int si, .int sw, .int ss, .ref en, .ref ki, .ref on, .ref ot]))] := hD
  refine lv_aload_n hx hb dX4_clear_5 rfl (lv_at hl 0 rfl) ?_
  refine lv_iconst (v := 0) hx hb dX4_clear_6 (by decide) ?_
  refine va_put (D := (dC, dI)) (ci := 3) (v := .int 0) (ty := .int) (C := RX4) (T := TX4) (N := 9) hx hb hts iX4_clear_X4 tyX4 tyX4_ok nmX4 hown hK hP hD hS 0 rfl rfl 1 (by decide) (hts (.fieldLink RX4 31 "LuckyTicket$Script" "base" "I") (List.mem_of_getElem? (i := 2) rfl)) (fun _ h9 => h9) rfl (by decide +kernel) rfl rfl (Nat.le_of_ble_eq_true rfl) dX4_clear_7 (fun H locs hP hD hS => ?_)
  have hP : va_P (dC, dI) vwCl [(sc, .inr (3, [.int 0, .int 0, .int si, .int sw, .int ss, .ref en, .ref ki, .ref on, .ref ot]))] H := hP
  have hD : va_D A [(sc, .inr (3, [.int 0, .int 0, .int si, .int sw, .int ss, .ref en, .ref ki, .ref on, .ref ot]))] := hD
  refine lv_aload_n hx hb dX4_clear_10 rfl (lv_at hl 0 rfl) ?_
  refine lv_iconst (v := 0) hx hb dX4_clear_11 (by decide) ?_
  refine va_put (D := (dC, dI)) (ci := 3) (v := .int 0) (ty := .int) (C := RX4) (T := TX4) (N := 9) hx hb hts iX4_clear_X4 tyX4 tyX4_ok nmX4 hown hK hP hD hS 0 rfl rfl 2 (by decide) (hts (.fieldLink RX4 34 "LuckyTicket$Script" "lines" "I") (List.mem_of_getElem? (i := 3) rfl)) (fun _ h9 => h9) rfl (by decide +kernel) rfl rfl (Nat.le_of_ble_eq_true rfl) dX4_clear_12 (fun H locs hP hD hS => ?_)
  have hP : va_P (dC, dI) vwCl [(sc, .inr (3, [.int 0, .int 0, .int 0, .int sw, .int ss, .ref en, .ref ki, .ref on, .ref ot]))] H := hP
  have hD : va_D A [(sc, .inr (3, [.int 0, .int 0, .int 0, .int sw, .int ss, .ref en, .ref ki, .ref on, .ref ot]))] := hD
  refine lv_aload_n hx hb dX4_clear_15 rfl (lv_at hl 0 rfl) ?_
  refine lv_iconst (v := 0) hx hb dX4_clear_16 (by decide) ?_
  refine va_put (D := (dC, dI)) (ci := 3) (v := .int 0) (ty := .int) (C := RX4) (T := TX4) (N := 9) hx hb hts iX4_clear_X4 tyX4 tyX4_ok nmX4 hown hK hP hD hS 0 rfl rfl 3 (by decide) (hts (.fieldLink RX4 37 "LuckyTicket$Script" "laws" "I") (List.mem_of_getElem? (i := 4) rfl)) (fun _ h9 => h9) rfl (by decide +kernel) rfl rfl (Nat.le_of_ble_eq_true rfl) dX4_clear_17 (fun H locs hP hD hS => ?_)
  have hP : va_P (dC, dI) vwCl [(sc, .inr (3, [.int 0, .int 0, .int 0, .int 0, .int ss, .ref en, .ref ki, .ref on, .ref ot]))] H := hP
  have hD : va_D A [(sc, .inr (3, [.int 0, .int 0, .int 0, .int 0, .int ss, .ref en, .ref ki, .ref on, .ref ot]))] := hD
  refine lv_aload_n hx hb dX4_clear_20 rfl (lv_at hl 0 rfl) ?_
  refine lv_iconst (v := 0) hx hb dX4_clear_21 (by decide) ?_
  refine va_put (D := (dC, dI)) (ci := 3) (v := .int 0) (ty := .int) (C := RX4) (T := TX4) (N := 9) hx hb hts iX4_clear_X4 tyX4 tyX4_ok nmX4 hown hK hP hD hS 0 rfl rfl 4 (by decide) (hts (.fieldLink RX4 40 "LuckyTicket$Script" "size" "I") (List.mem_of_getElem? (i := 5) rfl)) (fun _ h9 => h9) rfl (by decide +kernel) rfl rfl (Nat.le_of_ble_eq_true rfl) dX4_clear_22 (fun H locs hP hD hS => ?_)
  have hP : va_P (dC, dI) vwCl [(sc, .inr (3, [.int 0, .int 0, .int 0, .int 0, .int 0, .ref en, .ref ki, .ref on, .ref ot]))] H := hP
  have hD : va_D A [(sc, .inr (3, [.int 0, .int 0, .int 0, .int 0, .int 0, .ref en, .ref ki, .ref on, .ref ot]))] := hD
  have hP9 := hP.sub (ws' := [(sc, .inr (3, [.int 0, .int 0, .int 0, .int 0, .int 0, .ref en, .ref ki, .ref on, .ref ot]))]) [0] rfl
  have hD9 := hD.sub (ws' := [(sc, .inr (3, [.int 0, .int 0, .int 0, .int 0, .int 0, .ref en, .ref ki, .ref on, .ref ot]))]) [0] (by decide) rfl
  have hK9 := hK.sub (tys' := []) [] rfl
  exact W.vret hx hb hr (fun t ht hW => ⟨⟨(), rfl, trivial, by rw [ht]; exact hP9, va_K.moved hW.alike hK9, hD9⟩, hS.F ht⟩) hS.2.2 dX4_clear_25
theorem dX4_add_0 : decode cX4_add 0 = .ok (.aload_n 0, 1) := by decide +kernel
theorem dX4_add_1 : decode cX4_add 1 = .ok (.getfield 40, 3) := by decide +kernel
theorem dX4_add_4 : decode cX4_add 4 = .ok (.sipush 600, 3) := by decide +kernel
theorem dX4_add_7 : decode cX4_add 7 = .ok (.if_icmp .ge 44, 3) := by decide +kernel
theorem dX4_add_10 : decode cX4_add 10 = .ok (.aload_n 0, 1) := by decide +kernel
theorem dX4_add_11 : decode cX4_add 11 = .ok (.getfield 17, 3) := by decide +kernel
theorem dX4_add_14 : decode cX4_add 14 = .ok (.aload_n 0, 1) := by decide +kernel
theorem dX4_add_15 : decode cX4_add 15 = .ok (.getfield 40, 3) := by decide +kernel
theorem dX4_add_18 : decode cX4_add 18 = .ok (.iload_n 1, 1) := by decide +kernel
theorem dX4_add_19 : decode cX4_add 19 = .ok (.iastore, 1) := by decide +kernel
theorem dX4_add_20 : decode cX4_add 20 = .ok (.aload_n 0, 1) := by decide +kernel
theorem dX4_add_21 : decode cX4_add 21 = .ok (.getfield 20, 3) := by decide +kernel
theorem dX4_add_24 : decode cX4_add 24 = .ok (.aload_n 0, 1) := by decide +kernel
theorem dX4_add_25 : decode cX4_add 25 = .ok (.getfield 40, 3) := by decide +kernel
theorem dX4_add_28 : decode cX4_add 28 = .ok (.lload_n 2, 1) := by decide +kernel
theorem dX4_add_29 : decode cX4_add 29 = .ok (.lastore, 1) := by decide +kernel
theorem dX4_add_30 : decode cX4_add 30 = .ok (.aload_n 0, 1) := by decide +kernel
theorem dX4_add_31 : decode cX4_add 31 = .ok (.getfield 24, 3) := by decide +kernel
theorem dX4_add_34 : decode cX4_add 34 = .ok (.aload_n 0, 1) := by decide +kernel
theorem dX4_add_35 : decode cX4_add 35 = .ok (.getfield 40, 3) := by decide +kernel
theorem dX4_add_38 : decode cX4_add 38 = .ok (.lload 4, 2) := by decide +kernel
theorem dX4_add_40 : decode cX4_add 40 = .ok (.lastore, 1) := by decide +kernel
theorem dX4_add_41 : decode cX4_add 41 = .ok (.aload_n 0, 1) := by decide +kernel
theorem dX4_add_42 : decode cX4_add 42 = .ok (.dup, 1) := by decide +kernel
theorem dX4_add_43 : decode cX4_add 43 = .ok (.getfield 40, 3) := by decide +kernel
theorem dX4_add_46 : decode cX4_add 46 = .ok (.iconst 1, 1) := by decide +kernel
theorem dX4_add_47 : decode cX4_add 47 = .ok (.iadd, 1) := by decide +kernel
theorem dX4_add_48 : decode cX4_add 48 = .ok (.putfield 40, 3) := by decide +kernel
theorem dX4_add_51 : decode cX4_add 51 = .ok (.return_, 1) := by decide +kernel
theorem hd_yX4_add : yX4_add.cls = RX4 ∧ yX4_add.cls ≠ "java/lang/invoke/MethodHandle" ∧ yX4_add.cls ≠ "java/lang/invoke/VarHandle" ∧ (parseMethodDescriptor yX4_add.desc).map (fun d => d.parameters.length) = some 3 := by decide +kernel
def uX4_add : List Cond := List.cons (.code yX4_add cX4_add 6 none) (HAppend.hAppend ([.fieldLink RX4 40 "LuckyTicket$Script" "size" "I", .fieldLink RX4 17 "LuckyTicket$Script" "kinds" "[I", .fieldLink RX4 20 "LuckyTicket$Script" "ones" "[J", .fieldLink RX4 24 "LuckyTicket$Script" "others" "[J"] : List Cond) wsX40)
theorem iX4_add_X4 : ∀ w ∈ wsX40, w ∈ uX4_add := fun _ h => (List.mem_cons_of_mem _ (List.mem_append_right _ h))
theorem guX4_add : GU uX4_add := gu_cons (gu_app (by decide +kernel) gws_X4)
set_option maxHeartbeats 4000000 in
set_option maxRecDepth 100000 in
theorem kX4_add (l : Launch) (dC : Nat → ClassId) (dI : Nat → Nat → Nat) (sc : Nat) (sn : Int32) (sb : Int32) (si : Int32) (sw : Int32) (ss : Int32) (en : Nat) (ki : Nat) (on : Nat) (ot : Nat) (cK : ClassId) (fk : Nat → Int32) (cO : ClassId) (fo : Nat → Int64) (cT : ClassId) (ft : Nat → Int64) (a1 : Int32) (a2 : Int64) (a3 : Int64) (sz : Nat) (b_sn : (0 : Int) ≤ sn.toInt ∧ sn.toInt ≤ 12) (b_sb : (0 : Int) ≤ sb.toInt ∧ sb.toInt ≤ 16) (b_si : (0 : Int) ≤ si.toInt ∧ si.toInt ≤ 1300) (b_sw : (0 : Int) ≤ sw.toInt ∧ sw.toInt ≤ 9) (b_ss : (0 : Int) ≤ ss.toInt ∧ ss.toInt ≤ 600) : Met l yX4_add uX4_add ({ frames := 0, cells := 0, slots := 0, locals := 0 }) (va_Pc [.ref sc, .int a1, .long a2, .long a3] (hw (dC, dI) vwCl [(sc, .inr (3, [.int sn, .int sb, .int si, .int sw, .int ss, .ref en, .ref ki, .ref on, .ref ot])), (ki, .inl (cK, 600, .inl fk)), (on, .inl (cO, 600, .inr (.inl fo))), (ot, .inl (cT, 600, .inr (.inl ft)))] [(cK, .int), (cO, .long), (cT, .long)] sz)) (va_Qv (fun (_ : Unit) => True) (fun (_ : Unit) t => ∃ (o0_ : Int32) (o1_ : Nat → Int32) (o2_ : Nat → Int64) (o3_ : Nat → Int64), ((1 : Int) ≤ o0_.toInt ∧ o0_.toInt ≤ 600) ∧ va_P (dC, dI) vwCl [(sc, .inr (3, [.int sn, .int sb, .int si, .int sw, .int o0_, .ref en, .ref ki, .ref on, .ref ot])), (ki, .inl (cK, 600, .inl o1_)), (on, .inl (cO, 600, .inr (.inl o2_))), (ot, .inl (cT, 600, .inr (.inl o3_)))] t.heap ∧ va_K (dC, dI) vwCl [(cK, .int), (cO, .long), (cT, .long)] t ∧ va_D (va_A [(sc, .inr (3, [.int sn, .int sb, .int si, .int sw, .int ss, .ref en, .ref ki, .ref on, .ref ot])), (ki, .inl (cK, 600, .inl fk)), (on, .inl (cO, 600, .inr (.inl fo))), (ot, .inl (cT, 600, .inr (.inl ft)))] sz) [(sc, .inr (3, [.int sn, .int sb, .int si, .int sw, .int o0_, .ref en, .ref ki, .ref on, .ref ot])), (ki, .inl (cK, 600, .inl o1_)), (on, .inl (cO, 600, .inr (.inl o2_))), (ot, .inl (cT, 600, .inr (.inl o3_)))]) (va_A [(sc, .inr (3, [.int sn, .int sb, .int si, .int sw, .int ss, .ref en, .ref ki, .ref on, .ref ot])), (ki, .inl (cK, 600, .inl fk)), (on, .inl (cO, 600, .inr (.inl fo))), (ot, .inl (cT, 600, .inr (.inl ft)))] sz)) 0 0 (va_A [(sc, .inr (3, [.int sn, .int sb, .int si, .int sw, .int ss, .ref en, .ref ki, .ref on, .ref ot])), (ki, .inl (cK, 600, .inl fk)), (on, .inl (cO, 600, .inr (.inl fo))), (ot, .inl (cT, 600, .inr (.inl ft)))] sz) := by
  refine Met.ofW (cc := cX4_add) (maxL := 6) (ret := none) pn_X4 rfl ?_
  intro p e s m args below meth c s₁ B hml hv
  obtain ⟨rfl, hsz, hP, hK, hD0, hN⟩ := hv
  have hx := B.exec
  have hb := B.bytes
  have hr := B.returns
  have hts := atoms_spec (ws := uX4_add) B.pre
  have hown : s.vm.findClass RX4 = some m.cls := hown_of B.named rfl
  have hlocks := B.notSynchronized
  subst hsz
  have hD := hD0.self (sz := s.heap.size)
  generalize hAe : va_A [(sc, .inr (3, [.int sn, .int sb, .int si, .int sw, .int ss, .ref en, .ref ki, .ref on, .ref ot])), (ki, .inl (cK, 600, .inl fk)), (on, .inl (cO, 600, .inr (.inl fo))), (ot, .inl (cT, 600, .inr (.inl ft)))] s.heap.size = A at hD ⊢
  have hA : ∀ q : Nat, s.heap.size ≤ q → A q := fun q h => by rw [← hAe]; exact Or.inr h
  have hS : va_S A s.heap s.heap [] := va_S.rf
  have hP : va_P (dC, dI) vwCl [(sc, .inr (3, [.int sn, .int sb, .int si, .int sw, .int ss, .ref en, .ref ki, .ref on, .ref ot])), (ki, .inl (cK, 600, .inl fk)), (on, .inl (cO, 600, .inr (.inl fo))), (ot, .inl (cT, 600, .inr (.inl ft)))] s.heap := hP
  have hl := lv_entry ([.ref sc, .int a1, .long a2, .long a3]) (n := 6) (Nat.le_of_ble_eq_true rfl)
  rw [lg_entry_eq]
  generalize (lg_sl ([.ref sc, .int a1, .long a2, .long a3]) ++ List.replicate (6 - (lg_sl ([.ref sc, .int a1, .long a2, .long a3])).length) Slot.unset).toArray = ls at hl ⊢
  have hl : lv_has ls 6 [(0, .ref sc), (1, .int a1), (2, .long a2), (4, .long a3)] := hl
  refine lv_aload_n hx hb dX4_add_0 rfl (lv_at hl 0 rfl) ?_
  refine va_get (D := (dC, dI)) (ci := 3) (v := .int ss) (C := RX4) (T := TX4) (N := 9) hx hb hts iX4_add_X4 hown hK hP 0 rfl rfl 4 (by decide) (hts (.fieldLink RX4 40 "LuckyTicket$Script" "size" "I") (List.mem_of_getElem? (i := 1) rfl)) (fun _ h9 => h9) rfl dX4_add_1 ?_
  refine lv_sipush (v := 600) hx hb dX4_add_4 (by decide) ?_
  refine lv_icmp_ge (tgt := 51) hx hb dX4_add_7 (by decide) (fun c_6 => ?_) (fun c_6 => ?_)
  ·
    have n_c_6 : (600 : Int) ≤ ss.toInt := c_ge rfl (by decide) c_6
    have b_ss : (600 : Int) ≤ ss.toInt ∧ ss.toInt ≤ 600 := r_le2 (by decide : (600 : Int) ≤ (600 : Int32).toInt ∧ (600 : Int32).toInt ≤ 600) b_ss n_c_6 (by decide)
    have hP9 := hP.sub (ws' := [(sc, .inr (3, [.int sn, .int sb, .int si, .int sw, .int ss, .ref en, .ref ki, .ref on, .ref ot])), (ki, .inl (cK, 600, .inl fk)), (on, .inl (cO, 600, .inr (.inl fo))), (ot, .inl (cT, 600, .inr (.inl ft)))]) [0, 1, 2, 3] rfl
    have hD9 := hD.sub (ws' := [(sc, .inr (3, [.int sn, .int sb, .int si, .int sw, .int ss, .ref en, .ref ki, .ref on, .ref ot])), (ki, .inl (cK, 600, .inl fk)), (on, .inl (cO, 600, .inr (.inl fo))), (ot, .inl (cT, 600, .inr (.inl ft)))]) [0, 1, 2, 3] (by decide) rfl
    have hK9 := hK.sub (tys' := [(cK, .int), (cO, .long), (cT, .long)]) [0, 1, 2] rfl
    exact W.vret hx hb hr (fun t ht hW => ⟨⟨(), rfl, trivial, ss, fk, fo, ft, (rg_w b_ss (by decide) (by decide)), by rw [ht]; exact hP9, va_K.moved hW.alike hK9, hD9⟩, hS.F ht⟩) hS.2.2 dX4_add_51
  ·
    have n_c_6 : (ss.toInt : Int) < 600 := c_nge rfl (by decide) c_6
    have b_ss : (0 : Int) ≤ ss.toInt ∧ ss.toInt ≤ 599 := r_lt1 b_ss (by decide : (600 : Int) ≤ (600 : Int32).toInt ∧ (600 : Int32).toInt ≤ 600) n_c_6 (by decide)
    refine lv_aload_n hx hb dX4_add_10 rfl (lv_at hl 0 rfl) ?_
    refine va_get (D := (dC, dI)) (ci := 3) (v := .ref ki) (C := RX4) (T := TX4) (N := 9) hx hb hts iX4_add_X4 hown hK hP 0 rfl rfl 6 (by decide) (hts (.fieldLink RX4 17 "LuckyTicket$Script" "kinds" "[I") (List.mem_of_getElem? (i := 2) rfl)) (fun _ h9 => h9) rfl dX4_add_11 ?_
    refine lv_aload_n hx hb dX4_add_14 rfl (lv_at hl 0 rfl) ?_
    refine va_get (D := (dC, dI)) (ci := 3) (v := .int ss) (C := RX4) (T := TX4) (N := 9) hx hb hts iX4_add_X4 hown hK hP 0 rfl rfl 4 (by decide) (hts (.fieldLink RX4 40 "LuckyTicket$Script" "size" "I") (List.mem_of_getElem? (i := 1) rfl)) (fun _ h9 => h9) rfl dX4_add_15 ?_
    refine lv_iload_n hx hb dX4_add_18 rfl (lv_at hl 1 rfl) ?_
    refine va_iast hx hb hK hP hD hS 1 0 rfl rfl (vp_in_b b_ss (by decide) (by decide)) dX4_add_19 (fun H locs hP hD hS => ?_)
    have hP : va_P (dC, dI) vwCl [(sc, .inr (3, [.int sn, .int sb, .int si, .int sw, .int ss, .ref en, .ref ki, .ref on, .ref ot])), (ki, .inl (cK, 600, .inl (upd fk (ss : Int32).toNatClampNeg a1))), (on, .inl (cO, 600, .inr (.inl fo))), (ot, .inl (cT, 600, .inr (.inl ft)))] H := hP
    have hD : va_D A [(sc, .inr (3, [.int sn, .int sb, .int si, .int sw, .int ss, .ref en, .ref ki, .ref on, .ref ot])), (ki, .inl (cK, 600, .inl (upd fk (ss : Int32).toNatClampNeg a1))), (on, .inl (cO, 600, .inr (.inl fo))), (ot, .inl (cT, 600, .inr (.inl ft)))] := hD
    generalize (upd fk (ss : Int32).toNatClampNeg a1) = f_7 at hP hD
    have hP : va_P (dC, dI) vwCl [(sc, .inr (3, [.int sn, .int sb, .int si, .int sw, .int ss, .ref en, .ref ki, .ref on, .ref ot])), (ki, .inl (cK, 600, .inl f_7)), (on, .inl (cO, 600, .inr (.inl fo))), (ot, .inl (cT, 600, .inr (.inl ft)))] H := hP
    have hD : va_D A [(sc, .inr (3, [.int sn, .int sb, .int si, .int sw, .int ss, .ref en, .ref ki, .ref on, .ref ot])), (ki, .inl (cK, 600, .inl f_7)), (on, .inl (cO, 600, .inr (.inl fo))), (ot, .inl (cT, 600, .inr (.inl ft)))] := hD
    refine lv_aload_n hx hb dX4_add_20 rfl (lv_at hl 0 rfl) ?_
    refine va_get (D := (dC, dI)) (ci := 3) (v := .ref on) (C := RX4) (T := TX4) (N := 9) hx hb hts iX4_add_X4 hown hK hP 0 rfl rfl 7 (by decide) (hts (.fieldLink RX4 20 "LuckyTicket$Script" "ones" "[J") (List.mem_of_getElem? (i := 3) rfl)) (fun _ h9 => h9) rfl dX4_add_21 ?_
    refine lv_aload_n hx hb dX4_add_24 rfl (lv_at hl 0 rfl) ?_
    refine va_get (D := (dC, dI)) (ci := 3) (v := .int ss) (C := RX4) (T := TX4) (N := 9) hx hb hts iX4_add_X4 hown hK hP 0 rfl rfl 4 (by decide) (hts (.fieldLink RX4 40 "LuckyTicket$Script" "size" "I") (List.mem_of_getElem? (i := 1) rfl)) (fun _ h9 => h9) rfl dX4_add_25 ?_
    refine lv_lload_n hx hb dX4_add_28 rfl (lv_at hl 2 rfl) ?_
    refine va_last hx hb hK hP hD hS 2 1 rfl rfl (vp_in_b b_ss (by decide) (by decide)) dX4_add_29 (fun H locs hP hD hS => ?_)
    have hP : va_P (dC, dI) vwCl [(sc, .inr (3, [.int sn, .int sb, .int si, .int sw, .int ss, .ref en, .ref ki, .ref on, .ref ot])), (ki, .inl (cK, 600, .inl f_7)), (on, .inl (cO, 600, .inr (.inl (vp_updL fo (ss : Int32).toNatClampNeg a2)))), (ot, .inl (cT, 600, .inr (.inl ft)))] H := hP
    have hD : va_D A [(sc, .inr (3, [.int sn, .int sb, .int si, .int sw, .int ss, .ref en, .ref ki, .ref on, .ref ot])), (ki, .inl (cK, 600, .inl f_7)), (on, .inl (cO, 600, .inr (.inl (vp_updL fo (ss : Int32).toNatClampNeg a2)))), (ot, .inl (cT, 600, .inr (.inl ft)))] := hD
    generalize (vp_updL fo (ss : Int32).toNatClampNeg a2) = f_8 at hP hD
    have hP : va_P (dC, dI) vwCl [(sc, .inr (3, [.int sn, .int sb, .int si, .int sw, .int ss, .ref en, .ref ki, .ref on, .ref ot])), (ki, .inl (cK, 600, .inl f_7)), (on, .inl (cO, 600, .inr (.inl f_8))), (ot, .inl (cT, 600, .inr (.inl ft)))] H := hP
    have hD : va_D A [(sc, .inr (3, [.int sn, .int sb, .int si, .int sw, .int ss, .ref en, .ref ki, .ref on, .ref ot])), (ki, .inl (cK, 600, .inl f_7)), (on, .inl (cO, 600, .inr (.inl f_8))), (ot, .inl (cT, 600, .inr (.inl ft)))] := hD
    refine lv_aload_n hx hb dX4_add_30 rfl (lv_at hl 0 rfl) ?_
    refine va_get (D := (dC, dI)) (ci := 3) (v := .ref ot) (C := RX4) (T := TX4) (N := 9) hx hb hts iX4_add_X4 hown hK hP 0 rfl rfl 8 (by decide) (hts (.fieldLink RX4 24 "LuckyTicket$Script" "others" "[J") (List.mem_of_getElem? (i := 4) rfl)) (fun _ h9 => h9) rfl dX4_add_31 ?_
    refine lv_aload_n hx hb dX4_add_34 rfl (lv_at hl 0 rfl) ?_
    refine va_get (D := (dC, dI)) (ci := 3) (v := .int ss) (C := RX4) (T := TX4) (N := 9) hx hb hts iX4_add_X4 hown hK hP 0 rfl rfl 4 (by decide) (hts (.fieldLink RX4 40 "LuckyTicket$Script" "size" "I") (List.mem_of_getElem? (i := 1) rfl)) (fun _ h9 => h9) rfl dX4_add_35 ?_
    refine lv_lload hx hb dX4_add_38 (lv_at hl 3 rfl) ?_
    refine va_last hx hb hK hP hD hS 3 2 rfl rfl (vp_in_b b_ss (by decide) (by decide)) dX4_add_40 (fun H locs hP hD hS => ?_)
    have hP : va_P (dC, dI) vwCl [(sc, .inr (3, [.int sn, .int sb, .int si, .int sw, .int ss, .ref en, .ref ki, .ref on, .ref ot])), (ki, .inl (cK, 600, .inl f_7)), (on, .inl (cO, 600, .inr (.inl f_8))), (ot, .inl (cT, 600, .inr (.inl (vp_updL ft (ss : Int32).toNatClampNeg a3))))] H := hP
    have hD : va_D A [(sc, .inr (3, [.int sn, .int sb, .int si, .int sw, .int ss, .ref en, .ref ki, .ref on, .ref ot])), (ki, .inl (cK, 600, .inl f_7)), (on, .inl (cO, 600, .inr (.inl f_8))), (ot, .inl (cT, 600, .inr (.inl (vp_updL ft (ss : Int32).toNatClampNeg a3))))] := hD
    generalize (vp_updL ft (ss : Int32).toNatClampNeg a3) = f_9 at hP hD
    have hP : va_P (dC, dI) vwCl [(sc, .inr (3, [.int sn, .int sb, .int si, .int sw, .int ss, .ref en, .ref ki, .ref on, .ref ot])), (ki, .inl (cK, 600, .inl f_7)), (on, .inl (cO, 600, .inr (.inl f_8))), (ot, .inl (cT, 600, .inr (.inl f_9)))] H := hP
    have hD : va_D A [(sc, .inr (3, [.int sn, .int sb, .int si, .int sw, .int ss, .ref en, .ref ki, .ref on, .ref ot])), (ki, .inl (cK, 600, .inl f_7)), (on, .inl (cO, 600, .inr (.inl f_8))), (ot, .inl (cT, 600, .inr (.inl f_9)))] := hD
    refine lv_aload_n hx hb dX4_add_41 rfl (lv_at hl 0 rfl) ?_
    refine lv_dup hx hb dX4_add_42 rfl ?_
    refine va_get (D := (dC, dI)) (ci := 3) (v := .int ss) (C := RX4) (T := TX4) (N := 9) hx hb hts iX4_add_X4 hown hK hP 0 rfl rfl 4 (by decide) (hts (.fieldLink RX4 40 "LuckyTicket$Script" "size" "I") (List.mem_of_getElem? (i := 1) rfl)) (fun _ h9 => h9) rfl dX4_add_43 ?_
    refine lv_iconst (v := 1) hx hb dX4_add_46 (by decide) ?_
    refine lv_iadd hx hb dX4_add_47 ?_
    refine lv_topi (fun z_10 e_z_10 => ?_)
    obtain ⟨q_z_10, b_z_10⟩ := ti_add (lo := 1) (hi := 600) e_z_10 rfl (by decide : (1 : Int32).toInt = 1) b_ss (by decide : (1 : Int) ≤ (1 : Int32).toInt ∧ (1 : Int32).toInt ≤ 1) (by decide)
    refine va_put (D := (dC, dI)) (ci := 3) (v := .int z_10) (ty := .int) (C := RX4) (T := TX4) (N := 9) hx hb hts iX4_add_X4 tyX4 tyX4_ok nmX4 hown hK hP hD hS 0 rfl rfl 4 (by decide) (hts (.fieldLink RX4 40 "LuckyTicket$Script" "size" "I") (List.mem_of_getElem? (i := 1) rfl)) (fun _ h9 => h9) rfl (by decide +kernel) rfl rfl (Nat.le_of_ble_eq_true rfl) dX4_add_48 (fun H locs hP hD hS => ?_)
    have hP : va_P (dC, dI) vwCl [(sc, .inr (3, [.int sn, .int sb, .int si, .int sw, .int z_10, .ref en, .ref ki, .ref on, .ref ot])), (ki, .inl (cK, 600, .inl f_7)), (on, .inl (cO, 600, .inr (.inl f_8))), (ot, .inl (cT, 600, .inr (.inl f_9)))] H := hP
    have hD : va_D A [(sc, .inr (3, [.int sn, .int sb, .int si, .int sw, .int z_10, .ref en, .ref ki, .ref on, .ref ot])), (ki, .inl (cK, 600, .inl f_7)), (on, .inl (cO, 600, .inr (.inl f_8))), (ot, .inl (cT, 600, .inr (.inl f_9)))] := hD
    have hP9 := hP.sub (ws' := [(sc, .inr (3, [.int sn, .int sb, .int si, .int sw, .int z_10, .ref en, .ref ki, .ref on, .ref ot])), (ki, .inl (cK, 600, .inl f_7)), (on, .inl (cO, 600, .inr (.inl f_8))), (ot, .inl (cT, 600, .inr (.inl f_9)))]) [0, 1, 2, 3] rfl
    have hD9 := hD.sub (ws' := [(sc, .inr (3, [.int sn, .int sb, .int si, .int sw, .int z_10, .ref en, .ref ki, .ref on, .ref ot])), (ki, .inl (cK, 600, .inl f_7)), (on, .inl (cO, 600, .inr (.inl f_8))), (ot, .inl (cT, 600, .inr (.inl f_9)))]) [0, 1, 2, 3] (by decide) rfl
    have hK9 := hK.sub (tys' := [(cK, .int), (cO, .long), (cT, .long)]) [0, 1, 2] rfl
    exact W.vret hx hb hr (fun t ht hW => ⟨⟨(), rfl, trivial, z_10, f_7, f_8, f_9, b_z_10, by rw [ht]; exact hP9, va_K.moved hW.alike hK9, hD9⟩, hS.F ht⟩) hS.2.2 dX4_add_51
theorem dX4_closeLaw_0 : decode cX4_closeLaw 0 = .ok (.aload_n 0, 1) := by decide +kernel
theorem dX4_closeLaw_1 : decode cX4_closeLaw 1 = .ok (.getfield 37, 3) := by decide +kernel
theorem dX4_closeLaw_4 : decode cX4_closeLaw 4 = .ok (.bipush 9, 2) := by decide +kernel
theorem dX4_closeLaw_6 : decode cX4_closeLaw 6 = .ok (.if_icmp .ge 26, 3) := by decide +kernel
theorem dX4_closeLaw_9 : decode cX4_closeLaw 9 = .ok (.aload_n 0, 1) := by decide +kernel
theorem dX4_closeLaw_10 : decode cX4_closeLaw 10 = .ok (.getfield 11, 3) := by decide +kernel
theorem dX4_closeLaw_13 : decode cX4_closeLaw 13 = .ok (.aload_n 0, 1) := by decide +kernel
theorem dX4_closeLaw_14 : decode cX4_closeLaw 14 = .ok (.getfield 37, 3) := by decide +kernel
theorem dX4_closeLaw_17 : decode cX4_closeLaw 17 = .ok (.aload_n 0, 1) := by decide +kernel
theorem dX4_closeLaw_18 : decode cX4_closeLaw 18 = .ok (.getfield 40, 3) := by decide +kernel
theorem dX4_closeLaw_21 : decode cX4_closeLaw 21 = .ok (.iastore, 1) := by decide +kernel
theorem dX4_closeLaw_22 : decode cX4_closeLaw 22 = .ok (.aload_n 0, 1) := by decide +kernel
theorem dX4_closeLaw_23 : decode cX4_closeLaw 23 = .ok (.dup, 1) := by decide +kernel
theorem dX4_closeLaw_24 : decode cX4_closeLaw 24 = .ok (.getfield 37, 3) := by decide +kernel
theorem dX4_closeLaw_27 : decode cX4_closeLaw 27 = .ok (.iconst 1, 1) := by decide +kernel
theorem dX4_closeLaw_28 : decode cX4_closeLaw 28 = .ok (.iadd, 1) := by decide +kernel
theorem dX4_closeLaw_29 : decode cX4_closeLaw 29 = .ok (.putfield 37, 3) := by decide +kernel
theorem dX4_closeLaw_32 : decode cX4_closeLaw 32 = .ok (.return_, 1) := by decide +kernel
theorem hd_yX4_closeLaw : yX4_closeLaw.cls = RX4 ∧ yX4_closeLaw.cls ≠ "java/lang/invoke/MethodHandle" ∧ yX4_closeLaw.cls ≠ "java/lang/invoke/VarHandle" ∧ (parseMethodDescriptor yX4_closeLaw.desc).map (fun d => d.parameters.length) = some 0 := by decide +kernel
def uX4_closeLaw : List Cond := List.cons (.code yX4_closeLaw cX4_closeLaw 1 none) (HAppend.hAppend ([.fieldLink RX4 37 "LuckyTicket$Script" "laws" "I", .fieldLink RX4 11 "LuckyTicket$Script" "ends" "[I", .fieldLink RX4 40 "LuckyTicket$Script" "size" "I"] : List Cond) wsX40)
theorem iX4_closeLaw_X4 : ∀ w ∈ wsX40, w ∈ uX4_closeLaw := fun _ h => (List.mem_cons_of_mem _ (List.mem_append_right _ h))
theorem guX4_closeLaw : GU uX4_closeLaw := gu_cons (gu_app (by decide +kernel) gws_X4)
set_option maxHeartbeats 4000000 in
set_option maxRecDepth 100000 in
theorem kX4_closeLaw (l : Launch) (dC : Nat → ClassId) (dI : Nat → Nat → Nat) (sc : Nat) (sn : Int32) (sb : Int32) (si : Int32) (sw : Int32) (ss : Int32) (en : Nat) (ki : Nat) (on : Nat) (ot : Nat) (cE : ClassId) (fe : Nat → Int32) (sz : Nat) (b_sn : (0 : Int) ≤ sn.toInt ∧ sn.toInt ≤ 12) (b_sb : (0 : Int) ≤ sb.toInt ∧ sb.toInt ≤ 16) (b_si : (0 : Int) ≤ si.toInt ∧ si.toInt ≤ 1300) (b_sw : (0 : Int) ≤ sw.toInt ∧ sw.toInt ≤ 9) (b_ss : (0 : Int) ≤ ss.toInt ∧ ss.toInt ≤ 600) (ha_en : rg fe 9 0 600) : Met l yX4_closeLaw uX4_closeLaw ({ frames := 0, cells := 0, slots := 0, locals := 0 }) (va_Pc [.ref sc] (hw (dC, dI) vwCl [(sc, .inr (3, [.int sn, .int sb, .int si, .int sw, .int ss, .ref en, .ref ki, .ref on, .ref ot])), (en, .inl (cE, 9, .inl fe))] [(cE, .int)] sz)) (va_Qv (fun (_ : Unit) => True) (fun (_ : Unit) t => ∃ (o0_ : Int32) (o1_ : Nat → Int32), ((1 : Int) ≤ o0_.toInt ∧ o0_.toInt ≤ 9) ∧ (rg o1_ 9 0 600) ∧ va_P (dC, dI) vwCl [(sc, .inr (3, [.int sn, .int sb, .int si, .int o0_, .int ss, .ref en, .ref ki, .ref on, .ref ot])), (en, .inl (cE, 9, .inl o1_))] t.heap ∧ va_K (dC, dI) vwCl [(cE, .int)] t ∧ va_D (va_A [(sc, .inr (3, [.int sn, .int sb, .int si, .int sw, .int ss, .ref en, .ref ki, .ref on, .ref ot])), (en, .inl (cE, 9, .inl fe))] sz) [(sc, .inr (3, [.int sn, .int sb, .int si, .int o0_, .int ss, .ref en, .ref ki, .ref on, .ref ot])), (en, .inl (cE, 9, .inl o1_))]) (va_A [(sc, .inr (3, [.int sn, .int sb, .int si, .int sw, .int ss, .ref en, .ref ki, .ref on, .ref ot])), (en, .inl (cE, 9, .inl fe))] sz)) 0 0 (va_A [(sc, .inr (3, [.int sn, .int sb, .int si, .int sw, .int ss, .ref en, .ref ki, .ref on, .ref ot])), (en, .inl (cE, 9, .inl fe))] sz) := by
  refine Met.ofW (cc := cX4_closeLaw) (maxL := 1) (ret := none) pn_X4 rfl ?_
  intro p e s m args below meth c s₁ B hml hv
  obtain ⟨rfl, hsz, hP, hK, hD0, hN⟩ := hv
  have hx := B.exec
  have hb := B.bytes
  have hr := B.returns
  have hts := atoms_spec (ws := uX4_closeLaw) B.pre
  have hown : s.vm.findClass RX4 = some m.cls := hown_of B.named rfl
  have hlocks := B.notSynchronized
  subst hsz
  have hD := hD0.self (sz := s.heap.size)
  generalize hAe : va_A [(sc, .inr (3, [.int sn, .int sb, .int si, .int sw, .int ss, .ref en, .ref ki, .ref on, .ref ot])), (en, .inl (cE, 9, .inl fe))] s.heap.size = A at hD ⊢
  have hA : ∀ q : Nat, s.heap.size ≤ q → A q := fun q h => by rw [← hAe]; exact Or.inr h
  have hS : va_S A s.heap s.heap [] := va_S.rf
  have hP : va_P (dC, dI) vwCl [(sc, .inr (3, [.int sn, .int sb, .int si, .int sw, .int ss, .ref en, .ref ki, .ref on, .ref ot])), (en, .inl (cE, 9, .inl fe))] s.heap := hP
  have hl := lv_entry ([.ref sc]) (n := 1) (Nat.le_of_ble_eq_true rfl)
  rw [lg_entry_eq]
  generalize (lg_sl ([.ref sc]) ++ List.replicate (1 - (lg_sl ([.ref sc])).length) Slot.unset).toArray = ls at hl ⊢
  have hl : lv_has ls 1 [(0, .ref sc)] := hl
  refine lv_aload_n hx hb dX4_closeLaw_0 rfl (lv_at hl 0 rfl) ?_
  refine va_get (D := (dC, dI)) (ci := 3) (v := .int sw) (C := RX4) (T := TX4) (N := 9) hx hb hts iX4_closeLaw_X4 hown hK hP 0 rfl rfl 3 (by decide) (hts (.fieldLink RX4 37 "LuckyTicket$Script" "laws" "I") (List.mem_of_getElem? (i := 1) rfl)) (fun _ h9 => h9) rfl dX4_closeLaw_1 ?_
  refine lv_bipush (v := 9) hx hb dX4_closeLaw_4 (by decide) ?_
  refine lv_icmp_ge (tgt := 32) hx hb dX4_closeLaw_6 (by decide) (fun c_5 => ?_) (fun c_5 => ?_)
  ·
    have n_c_5 : (9 : Int) ≤ sw.toInt := c_ge rfl (by decide) c_5
    have b_sw : (9 : Int) ≤ sw.toInt ∧ sw.toInt ≤ 9 := r_le2 (by decide : (9 : Int) ≤ (9 : Int32).toInt ∧ (9 : Int32).toInt ≤ 9) b_sw n_c_5 (by decide)
    have hP9 := hP.sub (ws' := [(sc, .inr (3, [.int sn, .int sb, .int si, .int sw, .int ss, .ref en, .ref ki, .ref on, .ref ot])), (en, .inl (cE, 9, .inl fe))]) [0, 1] rfl
    have hD9 := hD.sub (ws' := [(sc, .inr (3, [.int sn, .int sb, .int si, .int sw, .int ss, .ref en, .ref ki, .ref on, .ref ot])), (en, .inl (cE, 9, .inl fe))]) [0, 1] (by decide) rfl
    have hK9 := hK.sub (tys' := [(cE, .int)]) [0] rfl
    exact W.vret hx hb hr (fun t ht hW => ⟨⟨(), rfl, trivial, sw, fe, (rg_w b_sw (by decide) (by decide)), ha_en, by rw [ht]; exact hP9, va_K.moved hW.alike hK9, hD9⟩, hS.F ht⟩) hS.2.2 dX4_closeLaw_32
  ·
    have n_c_5 : (sw.toInt : Int) < 9 := c_nge rfl (by decide) c_5
    have b_sw : (0 : Int) ≤ sw.toInt ∧ sw.toInt ≤ 8 := r_lt1 b_sw (by decide : (9 : Int) ≤ (9 : Int32).toInt ∧ (9 : Int32).toInt ≤ 9) n_c_5 (by decide)
    refine lv_aload_n hx hb dX4_closeLaw_9 rfl (lv_at hl 0 rfl) ?_
    refine va_get (D := (dC, dI)) (ci := 3) (v := .ref en) (C := RX4) (T := TX4) (N := 9) hx hb hts iX4_closeLaw_X4 hown hK hP 0 rfl rfl 5 (by decide) (hts (.fieldLink RX4 11 "LuckyTicket$Script" "ends" "[I") (List.mem_of_getElem? (i := 2) rfl)) (fun _ h9 => h9) rfl dX4_closeLaw_10 ?_
    refine lv_aload_n hx hb dX4_closeLaw_13 rfl (lv_at hl 0 rfl) ?_
    refine va_get (D := (dC, dI)) (ci := 3) (v := .int sw) (C := RX4) (T := TX4) (N := 9) hx hb hts iX4_closeLaw_X4 hown hK hP 0 rfl rfl 3 (by decide) (hts (.fieldLink RX4 37 "LuckyTicket$Script" "laws" "I") (List.mem_of_getElem? (i := 1) rfl)) (fun _ h9 => h9) rfl dX4_closeLaw_14 ?_
    refine lv_aload_n hx hb dX4_closeLaw_17 rfl (lv_at hl 0 rfl) ?_
    refine va_get (D := (dC, dI)) (ci := 3) (v := .int ss) (C := RX4) (T := TX4) (N := 9) hx hb hts iX4_closeLaw_X4 hown hK hP 0 rfl rfl 4 (by decide) (hts (.fieldLink RX4 40 "LuckyTicket$Script" "size" "I") (List.mem_of_getElem? (i := 3) rfl)) (fun _ h9 => h9) rfl dX4_closeLaw_18 ?_
    refine va_iast hx hb hK hP hD hS 1 0 rfl rfl (vp_in_b b_sw (by decide) (by decide)) dX4_closeLaw_21 (fun H locs hP hD hS => ?_)
    have hP : va_P (dC, dI) vwCl [(sc, .inr (3, [.int sn, .int sb, .int si, .int sw, .int ss, .ref en, .ref ki, .ref on, .ref ot])), (en, .inl (cE, 9, .inl (upd fe (sw : Int32).toNatClampNeg ss)))] H := hP
    have hD : va_D A [(sc, .inr (3, [.int sn, .int sb, .int si, .int sw, .int ss, .ref en, .ref ki, .ref on, .ref ot])), (en, .inl (cE, 9, .inl (upd fe (sw : Int32).toNatClampNeg ss)))] := hD
    have ha_7 : rg (upd fe (sw : Int32).toNatClampNeg ss) 9 0 600 := rg_upd ha_en b_ss
    generalize (upd fe (sw : Int32).toNatClampNeg ss) = f_6 at hP hD ha_7
    have hP : va_P (dC, dI) vwCl [(sc, .inr (3, [.int sn, .int sb, .int si, .int sw, .int ss, .ref en, .ref ki, .ref on, .ref ot])), (en, .inl (cE, 9, .inl f_6))] H := hP
    have hD : va_D A [(sc, .inr (3, [.int sn, .int sb, .int si, .int sw, .int ss, .ref en, .ref ki, .ref on, .ref ot])), (en, .inl (cE, 9, .inl f_6))] := hD
    refine lv_aload_n hx hb dX4_closeLaw_22 rfl (lv_at hl 0 rfl) ?_
    refine lv_dup hx hb dX4_closeLaw_23 rfl ?_
    refine va_get (D := (dC, dI)) (ci := 3) (v := .int sw) (C := RX4) (T := TX4) (N := 9) hx hb hts iX4_closeLaw_X4 hown hK hP 0 rfl rfl 3 (by decide) (hts (.fieldLink RX4 37 "LuckyTicket$Script" "laws" "I") (List.mem_of_getElem? (i := 1) rfl)) (fun _ h9 => h9) rfl dX4_closeLaw_24 ?_
    refine lv_iconst (v := 1) hx hb dX4_closeLaw_27 (by decide) ?_
    refine lv_iadd hx hb dX4_closeLaw_28 ?_
    refine lv_topi (fun z_8 e_z_8 => ?_)
    obtain ⟨q_z_8, b_z_8⟩ := ti_add (lo := 1) (hi := 9) e_z_8 rfl (by decide : (1 : Int32).toInt = 1) b_sw (by decide : (1 : Int) ≤ (1 : Int32).toInt ∧ (1 : Int32).toInt ≤ 1) (by decide)
    refine va_put (D := (dC, dI)) (ci := 3) (v := .int z_8) (ty := .int) (C := RX4) (T := TX4) (N := 9) hx hb hts iX4_closeLaw_X4 tyX4 tyX4_ok nmX4 hown hK hP hD hS 0 rfl rfl 3 (by decide) (hts (.fieldLink RX4 37 "LuckyTicket$Script" "laws" "I") (List.mem_of_getElem? (i := 1) rfl)) (fun _ h9 => h9) rfl (by decide +kernel) rfl rfl (Nat.le_of_ble_eq_true rfl) dX4_closeLaw_29 (fun H locs hP hD hS => ?_)
    have hP : va_P (dC, dI) vwCl [(sc, .inr (3, [.int sn, .int sb, .int si, .int z_8, .int ss, .ref en, .ref ki, .ref on, .ref ot])), (en, .inl (cE, 9, .inl f_6))] H := hP
    have hD : va_D A [(sc, .inr (3, [.int sn, .int sb, .int si, .int z_8, .int ss, .ref en, .ref ki, .ref on, .ref ot])), (en, .inl (cE, 9, .inl f_6))] := hD
    have hP9 := hP.sub (ws' := [(sc, .inr (3, [.int sn, .int sb, .int si, .int z_8, .int ss, .ref en, .ref ki, .ref on, .ref ot])), (en, .inl (cE, 9, .inl f_6))]) [0, 1] rfl
    have hD9 := hD.sub (ws' := [(sc, .inr (3, [.int sn, .int sb, .int si, .int z_8, .int ss, .ref en, .ref ki, .ref on, .ref ot])), (en, .inl (cE, 9, .inl f_6))]) [0, 1] (by decide) rfl
    have hK9 := hK.sub (tys' := [(cE, .int)]) [0] rfl
    exact W.vret hx hb hr (fun t ht hW => ⟨⟨(), rfl, trivial, z_8, f_6, b_z_8, ha_7, by rw [ht]; exact hP9, va_K.moved hW.alike hK9, hD9⟩, hS.F ht⟩) hS.2.2 dX4_closeLaw_32
theorem dX4_isSquare_0 : decode cX4_isSquare 0 = .ok (.iconst 0, 1) := by decide +kernel
theorem dX4_isSquare_1 : decode cX4_isSquare 1 = .ok (.istore_n 1, 1) := by decide +kernel
theorem dX4_isSquare_2 : decode cX4_isSquare 2 = .ok (.iload_n 1, 1) := by decide +kernel
theorem dX4_isSquare_3 : decode cX4_isSquare 3 = .ok (.iload_n 1, 1) := by decide +kernel
theorem dX4_isSquare_4 : decode cX4_isSquare 4 = .ok (.imul, 1) := by decide +kernel
theorem dX4_isSquare_5 : decode cX4_isSquare 5 = .ok (.iload_n 0, 1) := by decide +kernel
theorem dX4_isSquare_6 : decode cX4_isSquare 6 = .ok (.if_icmp .ge 9, 3) := by decide +kernel
theorem dX4_isSquare_9 : decode cX4_isSquare 9 = .ok (.iinc 1 1, 3) := by decide +kernel
theorem dX4_isSquare_12 : decode cX4_isSquare 12 = .ok (.goto (-10), 3) := by decide +kernel
theorem dX4_isSquare_15 : decode cX4_isSquare 15 = .ok (.iload_n 1, 1) := by decide +kernel
theorem dX4_isSquare_16 : decode cX4_isSquare 16 = .ok (.iload_n 1, 1) := by decide +kernel
theorem dX4_isSquare_17 : decode cX4_isSquare 17 = .ok (.imul, 1) := by decide +kernel
theorem dX4_isSquare_18 : decode cX4_isSquare 18 = .ok (.iload_n 0, 1) := by decide +kernel
theorem dX4_isSquare_19 : decode cX4_isSquare 19 = .ok (.if_icmp .ne 7, 3) := by decide +kernel
theorem dX4_isSquare_22 : decode cX4_isSquare 22 = .ok (.iconst 1, 1) := by decide +kernel
theorem dX4_isSquare_23 : decode cX4_isSquare 23 = .ok (.goto 4, 3) := by decide +kernel
theorem dX4_isSquare_26 : decode cX4_isSquare 26 = .ok (.iconst 0, 1) := by decide +kernel
theorem dX4_isSquare_27 : decode cX4_isSquare 27 = .ok (.ireturn, 1) := by decide +kernel
theorem hd_yX4_isSquare : yX4_isSquare.cls = RX4 ∧ yX4_isSquare.cls ≠ "java/lang/invoke/MethodHandle" ∧ yX4_isSquare.cls ≠ "java/lang/invoke/VarHandle" ∧ (parseMethodDescriptor yX4_isSquare.desc).map (fun d => d.parameters.length) = some 1 := by decide +kernel
def uX4_isSquare : List Cond := List.cons (.code yX4_isSquare cX4_isSquare 2 (some .boolean)) ([] : List Cond)
theorem guX4_isSquare : GU uX4_isSquare := gu_cons (gu_all (by decide +kernel))
set_option maxHeartbeats 4000000 in
set_option maxRecDepth 100000 in
theorem kX4_isSquare (l : Launch) (dC : Nat → ClassId) (dI : Nat → Nat → Nat) (a1 : Int32) (b_a1 : (0 : Int) ≤ a1.toInt ∧ a1.toInt ≤ 255) : Met l yX4_isSquare uX4_isSquare ({ frames := 0, cells := 0, slots := 0, locals := 0 }) (va_Pc [.int a1] (fun _ => True)) (vp_Si (fun r => ((0 : Int) ≤ r.toInt ∧ r.toInt ≤ 1))) 0 0 (fun _ => False) := by
  refine Met.ofW (cc := cX4_isSquare) (maxL := 2) (ret := (some .boolean)) pn_X4 rfl ?_
  intro p e s m args below meth c s₁ B hml hv
  obtain ⟨rfl, _⟩ := hv
  have hx := B.exec
  have hb := B.bytes
  have hr := B.returns
  have hts := atoms_spec (ws := uX4_isSquare) B.pre
  have hown : s.vm.findClass RX4 = some m.cls := hown_of B.named rfl
  have hlocks := B.notSynchronized
  have hl := lv_entry ([.int a1]) (n := 2) (Nat.le_of_ble_eq_true rfl)
  rw [lg_entry_eq]
  generalize (lg_sl ([.int a1]) ++ List.replicate (2 - (lg_sl ([.int a1])).length) Slot.unset).toArray = ls at hl ⊢
  have hl : lv_has ls 2 [(0, .int a1)] := hl
  refine lv_iconst (v := 0) hx hb dX4_isSquare_0 (by decide) ?_
  refine lv_istore_n (lv' := [(1, .int 0), (0, .int a1)]) hx hb dX4_isSquare_1 rfl hl (by decide) rfl (fun ls hl => ?_)
  refine loopP (σ := Int32) (fun v => (16 - v.toInt).toNat) (fun v ls => ((0 : Int) ≤ v.toInt ∧ v.toInt ≤ 16) ∧ lv_has ls 2 [(1, .int v), (0, .int a1)]) (fun v ls hI ih_2_44 => ?_) (0 : Int32) ⟨(show (0 : Int) ≤ (0 : Int32).toInt ∧ (0 : Int32).toInt ≤ 16 from (rg_w (by decide : (0 : Int) ≤ (0 : Int32).toInt ∧ (0 : Int32).toInt ≤ 0) (by decide) (by decide))), lv_sub hl [0, 1] rfl⟩
  obtain ⟨y_32, rfl⟩ : ∃ z, z = v := ⟨_, rfl⟩
  obtain ⟨b_y_32, hl⟩ := hI
  have b_y_32 : (0 : Int) ≤ y_32.toInt ∧ y_32.toInt ≤ 16 := b_y_32
  have hl : lv_has ls 2 [(1, .int y_32), (0, .int a1)] := hl
  refine lv_iload_n hx hb dX4_isSquare_2 rfl (lv_at hl 0 rfl) ?_
  refine lv_iload_n hx hb dX4_isSquare_3 rfl (lv_at hl 0 rfl) ?_
  refine lv_imul hx hb dX4_isSquare_4 ?_
  refine lv_topi (fun z_45 e_z_45 => ?_)
  obtain ⟨q_z_45, b_z_45⟩ := ti_mul (lo := 0) (hi := 256) e_z_45 rfl rfl b_y_32 b_y_32 (by decide)
  refine lv_iload_n hx hb dX4_isSquare_5 rfl (lv_at hl 1 rfl) ?_
  refine lv_icmp_ge (tgt := 15) hx hb dX4_isSquare_6 (by decide) (fun c_46 => ?_) (fun c_46 => ?_)
  ·
    have n_c_46 : (a1.toInt : Int) ≤ z_45.toInt := c_ge rfl rfl c_46
    refine lv_iload_n hx hb dX4_isSquare_15 rfl (lv_at hl 0 rfl) ?_
    refine lv_iload_n hx hb dX4_isSquare_16 rfl (lv_at hl 0 rfl) ?_
    refine lv_imul hx hb dX4_isSquare_17 ?_
    refine lv_topi (fun z_48 e_z_48 => ?_)
    obtain ⟨q_z_48, b_z_48⟩ := ti_mul (lo := 0) (hi := 256) e_z_48 rfl rfl b_y_32 b_y_32 (by decide)
    refine lv_iload_n hx hb dX4_isSquare_18 rfl (lv_at hl 1 rfl) ?_
    refine lv_icmp_ne (tgt := 26) hx hb dX4_isSquare_19 (by decide) (fun c_49 => ?_) (fun c_49 => ?_)
    ·
      have n_c_49 : (z_48.toInt : Int) ≠ a1.toInt := c_ne rfl rfl c_49
      refine lv_iconst (v := 0) hx hb dX4_isSquare_26 (by decide) ?_
      exact W.zret (v := 0) hx hb hr rfl (fun t ht hW => ⟨0, rfl, (rg_w (by decide : (0 : Int) ≤ (0 : Int32).toInt ∧ (0 : Int32).toInt ≤ 0) (by decide) (by decide)), ht⟩) t_nil dX4_isSquare_27
    ·
      have n_c_49 : (z_48.toInt : Int) = a1.toInt := c_eq rfl rfl c_49
      have b_z_48 : (0 : Int) ≤ z_48.toInt ∧ z_48.toInt ≤ 255 := r_eq1 b_z_48 b_a1 n_c_49 (by decide)
      have b_y_32 : (0 : Int) ≤ y_32.toInt ∧ y_32.toInt ≤ 15 := ⟨(b_y_32).1, sq_bd (h := 255) (by have q0 := b_y_32; omega) (by have q0 := b_z_48; have q1 := q_z_48; omega) (by decide)⟩
      refine lv_iconst (v := 1) hx hb dX4_isSquare_22 (by decide) ?_
      refine lv_goto (tgt := 27) hx hb dX4_isSquare_23 (by decide) ?_
      exact W.zret (v := 1) hx hb hr rfl (fun t ht hW => ⟨1, rfl, (rg_w (by decide : (1 : Int) ≤ (1 : Int32).toInt ∧ (1 : Int32).toInt ≤ 1) (by decide) (by decide)), ht⟩) t_nil dX4_isSquare_27
  ·
    have n_c_46 : (z_45.toInt : Int) < a1.toInt := c_nge rfl rfl c_46
    have b_z_45 : (0 : Int) ≤ z_45.toInt ∧ z_45.toInt ≤ 254 := r_lt1 b_z_45 b_a1 n_c_46 (by decide)
    have b_y_32 : (0 : Int) ≤ y_32.toInt ∧ y_32.toInt ≤ 15 := ⟨(b_y_32).1, sq_bd (h := 254) (by have q0 := b_y_32; omega) (by have q0 := b_z_45; have q1 := q_z_45; omega) (by decide)⟩
    have b_a1 : (1 : Int) ≤ a1.toInt ∧ a1.toInt ≤ 255 := r_lt2 b_z_45 b_a1 n_c_46 (by decide)
    obtain ⟨z_50, e_z_50⟩ : ∃ y : Int32, y = y_32 + 1 := ⟨_, rfl⟩
    refine lv_iinc (v := z_50) (lv' := [(1, .int z_50), (0, .int a1)]) hx hb dX4_isSquare_9 hl (k := 0) rfl (by rw [e_z_50]; rfl) (by decide) rfl (fun ls hl => ?_)
    obtain ⟨q_z_50, b_z_50⟩ := ti_add (lo := 1) (hi := 16) e_z_50 rfl (by decide : (1 : Int32).toInt = 1) b_y_32 (by decide : (1 : Int) ≤ (1 : Int32).toInt ∧ (1 : Int32).toInt ≤ 1) (by decide)
    refine lv_goto (tgt := 2) hx hb dX4_isSquare_12 (by decide) ?_
    exact ih_2_44 z_50 _ ⟨(show (0 : Int) ≤ z_50.toInt ∧ z_50.toInt ≤ 16 from (rg_w b_z_50 (by decide) (by decide))), lv_sub hl [0, 1] rfl⟩ (show (16 - z_50.toInt).toNat < (16 - y_32.toInt).toNat by omega)
theorem dX4_isSo_0 : decode cX4_isSo 0 = .ok (.iload_n 1, 1) := by decide +kernel
theorem dX4_isSo_1 : decode cX4_isSo 1 = .ok (.ifCond .lt 10, 3) := by decide +kernel
theorem dX4_isSo_4 : decode cX4_isSo 4 = .ok (.iload_n 1, 1) := by decide +kernel
theorem dX4_isSo_5 : decode cX4_isSo 5 = .ok (.sipush 600, 3) := by decide +kernel
theorem dX4_isSo_8 : decode cX4_isSo 8 = .ok (.if_icmp .lt 5, 3) := by decide +kernel
theorem dX4_isSo_11 : decode cX4_isSo 11 = .ok (.iconst 0, 1) := by decide +kernel
theorem dX4_isSo_12 : decode cX4_isSo 12 = .ok (.ireturn, 1) := by decide +kernel
theorem dX4_isSo_13 : decode cX4_isSo 13 = .ok (.aload_n 0, 1) := by decide +kernel
theorem dX4_isSo_14 : decode cX4_isSo 14 = .ok (.getfield 20, 3) := by decide +kernel
theorem dX4_isSo_17 : decode cX4_isSo 17 = .ok (.iload_n 1, 1) := by decide +kernel
theorem dX4_isSo_18 : decode cX4_isSo 18 = .ok (.laload, 1) := by decide +kernel
theorem dX4_isSo_19 : decode cX4_isSo 19 = .ok (.lstore 6, 2) := by decide +kernel
theorem dX4_isSo_21 : decode cX4_isSo 21 = .ok (.aload_n 0, 1) := by decide +kernel
theorem dX4_isSo_22 : decode cX4_isSo 22 = .ok (.getfield 24, 3) := by decide +kernel
theorem dX4_isSo_25 : decode cX4_isSo 25 = .ok (.iload_n 1, 1) := by decide +kernel
theorem dX4_isSo_26 : decode cX4_isSo 26 = .ok (.laload, 1) := by decide +kernel
theorem dX4_isSo_27 : decode cX4_isSo 27 = .ok (.lstore 8, 2) := by decide +kernel
theorem dX4_isSo_29 : decode cX4_isSo 29 = .ok (.aload_n 0, 1) := by decide +kernel
theorem dX4_isSo_30 : decode cX4_isSo 30 = .ok (.getfield 17, 3) := by decide +kernel
theorem dX4_isSo_33 : decode cX4_isSo 33 = .ok (.iload_n 1, 1) := by decide +kernel
theorem dX4_isSo_34 : decode cX4_isSo 34 = .ok (.iaload, 1) := by decide +kernel
theorem dX4_isSo_35 : decode cX4_isSo 35 = .ok (.tableswitch 136 0 5 #[37, 60, 69, 90, 96, 111], 37) := by decide +kernel
theorem dX4_isSo_72 : decode cX4_isSo 72 = .ok (.lload_n 2, 1) := by decide +kernel
theorem dX4_isSo_73 : decode cX4_isSo 73 = .ok (.lload 6, 2) := by decide +kernel
theorem dX4_isSo_75 : decode cX4_isSo 75 = .ok (.land, 1) := by decide +kernel
theorem dX4_isSo_76 : decode cX4_isSo 76 = .ok (.invokestatic 43, 3) := by decide +kernel
theorem dX4_isSo_79 : decode cX4_isSo 79 = .ok (.lload_n 2, 1) := by decide +kernel
theorem dX4_isSo_80 : decode cX4_isSo 80 = .ok (.lload 8, 2) := by decide +kernel
theorem dX4_isSo_82 : decode cX4_isSo 82 = .ok (.land, 1) := by decide +kernel
theorem dX4_isSo_83 : decode cX4_isSo 83 = .ok (.invokestatic 43, 3) := by decide +kernel
theorem dX4_isSo_86 : decode cX4_isSo 86 = .ok (.if_icmp .ne 7, 3) := by decide +kernel
theorem dX4_isSo_89 : decode cX4_isSo 89 = .ok (.iconst 1, 1) := by decide +kernel
theorem dX4_isSo_90 : decode cX4_isSo 90 = .ok (.goto 4, 3) := by decide +kernel
theorem dX4_isSo_93 : decode cX4_isSo 93 = .ok (.iconst 0, 1) := by decide +kernel
theorem dX4_isSo_94 : decode cX4_isSo 94 = .ok (.ireturn, 1) := by decide +kernel
theorem dX4_isSo_95 : decode cX4_isSo 95 = .ok (.lload_n 2, 1) := by decide +kernel
theorem dX4_isSo_96 : decode cX4_isSo 96 = .ok (.aload_n 0, 1) := by decide +kernel
theorem dX4_isSo_97 : decode cX4_isSo 97 = .ok (.getfield 27, 3) := by decide +kernel
theorem dX4_isSo_100 : decode cX4_isSo 100 = .ok (.invokestatic 57, 3) := by decide +kernel
theorem dX4_isSo_103 : decode cX4_isSo 103 = .ok (.ireturn, 1) := by decide +kernel
theorem dX4_isSo_104 : decode cX4_isSo 104 = .ok (.lload_n 2, 1) := by decide +kernel
theorem dX4_isSo_105 : decode cX4_isSo 105 = .ok (.aload_n 0, 1) := by decide +kernel
theorem dX4_isSo_106 : decode cX4_isSo 106 = .ok (.getfield 27, 3) := by decide +kernel
theorem dX4_isSo_109 : decode cX4_isSo 109 = .ok (.invokestatic 61, 3) := by decide +kernel
theorem dX4_isSo_112 : decode cX4_isSo 112 = .ok (.aload_n 0, 1) := by decide +kernel
theorem dX4_isSo_113 : decode cX4_isSo 113 = .ok (.getfield 27, 3) := by decide +kernel
theorem dX4_isSo_116 : decode cX4_isSo 116 = .ok (.if_icmp .ne 7, 3) := by decide +kernel
theorem dX4_isSo_119 : decode cX4_isSo 119 = .ok (.iconst 1, 1) := by decide +kernel
theorem dX4_isSo_120 : decode cX4_isSo 120 = .ok (.goto 4, 3) := by decide +kernel
theorem dX4_isSo_123 : decode cX4_isSo 123 = .ok (.iconst 0, 1) := by decide +kernel
theorem dX4_isSo_124 : decode cX4_isSo 124 = .ok (.ireturn, 1) := by decide +kernel
theorem dX4_isSo_125 : decode cX4_isSo 125 = .ok (.iload 4, 2) := by decide +kernel
theorem dX4_isSo_127 : decode cX4_isSo 127 = .ok (.invokestatic 65, 3) := by decide +kernel
theorem dX4_isSo_130 : decode cX4_isSo 130 = .ok (.ireturn, 1) := by decide +kernel
theorem dX4_isSo_131 : decode cX4_isSo 131 = .ok (.iload 4, 2) := by decide +kernel
theorem dX4_isSo_133 : decode cX4_isSo 133 = .ok (.i2l, 1) := by decide +kernel
theorem dX4_isSo_134 : decode cX4_isSo 134 = .ok (.lload 6, 2) := by decide +kernel
theorem dX4_isSo_136 : decode cX4_isSo 136 = .ok (.lcmp, 1) := by decide +kernel
theorem dX4_isSo_137 : decode cX4_isSo 137 = .ok (.ifCond .ne 7, 3) := by decide +kernel
theorem dX4_isSo_140 : decode cX4_isSo 140 = .ok (.iconst 1, 1) := by decide +kernel
theorem dX4_isSo_141 : decode cX4_isSo 141 = .ok (.goto 4, 3) := by decide +kernel
theorem dX4_isSo_144 : decode cX4_isSo 144 = .ok (.iconst 0, 1) := by decide +kernel
theorem dX4_isSo_145 : decode cX4_isSo 145 = .ok (.ireturn, 1) := by decide +kernel
theorem dX4_isSo_146 : decode cX4_isSo 146 = .ok (.lload 8, 2) := by decide +kernel
theorem dX4_isSo_148 : decode cX4_isSo 148 = .ok (.lconst 0, 1) := by decide +kernel
theorem dX4_isSo_149 : decode cX4_isSo 149 = .ok (.lcmp, 1) := by decide +kernel
theorem dX4_isSo_150 : decode cX4_isSo 150 = .ok (.ifCond .le 19, 3) := by decide +kernel
theorem dX4_isSo_153 : decode cX4_isSo 153 = .ok (.iload 4, 2) := by decide +kernel
theorem dX4_isSo_155 : decode cX4_isSo 155 = .ok (.i2l, 1) := by decide +kernel
theorem dX4_isSo_156 : decode cX4_isSo 156 = .ok (.lload 8, 2) := by decide +kernel
theorem dX4_isSo_158 : decode cX4_isSo 158 = .ok (.lrem, 1) := by decide +kernel
theorem dX4_isSo_159 : decode cX4_isSo 159 = .ok (.lload 6, 2) := by decide +kernel
theorem dX4_isSo_161 : decode cX4_isSo 161 = .ok (.lcmp, 1) := by decide +kernel
theorem dX4_isSo_162 : decode cX4_isSo 162 = .ok (.ifCond .ne 7, 3) := by decide +kernel
theorem dX4_isSo_165 : decode cX4_isSo 165 = .ok (.iconst 1, 1) := by decide +kernel
theorem dX4_isSo_166 : decode cX4_isSo 166 = .ok (.goto 4, 3) := by decide +kernel
theorem dX4_isSo_169 : decode cX4_isSo 169 = .ok (.iconst 0, 1) := by decide +kernel
theorem dX4_isSo_170 : decode cX4_isSo 170 = .ok (.ireturn, 1) := by decide +kernel
theorem dX4_isSo_171 : decode cX4_isSo 171 = .ok (.iload 5, 2) := by decide +kernel
theorem dX4_isSo_173 : decode cX4_isSo 173 = .ok (.lload 6, 2) := by decide +kernel
theorem dX4_isSo_175 : decode cX4_isSo 175 = .ok (.l2i, 1) := by decide +kernel
theorem dX4_isSo_176 : decode cX4_isSo 176 = .ok (.iushr, 1) := by decide +kernel
theorem dX4_isSo_177 : decode cX4_isSo 177 = .ok (.iconst 1, 1) := by decide +kernel
theorem dX4_isSo_178 : decode cX4_isSo 178 = .ok (.iand, 1) := by decide +kernel
theorem dX4_isSo_179 : decode cX4_isSo 179 = .ok (.ifCond .eq 7, 3) := by decide +kernel
theorem dX4_isSo_182 : decode cX4_isSo 182 = .ok (.iconst 1, 1) := by decide +kernel
theorem dX4_isSo_183 : decode cX4_isSo 183 = .ok (.goto 4, 3) := by decide +kernel
theorem dX4_isSo_186 : decode cX4_isSo 186 = .ok (.iconst 0, 1) := by decide +kernel
theorem dX4_isSo_187 : decode cX4_isSo 187 = .ok (.ireturn, 1) := by decide +kernel
theorem hd_yX4_isSo : yX4_isSo.cls = RX4 ∧ yX4_isSo.cls ≠ "java/lang/invoke/MethodHandle" ∧ yX4_isSo.cls ≠ "java/lang/invoke/VarHandle" ∧ (parseMethodDescriptor yX4_isSo.desc).map (fun d => d.parameters.length) = some 4 := by decide +kernel
def uX4_isSo : List Cond := List.cons (.code yX4_isSo cX4_isSo 10 (some .boolean)) (HAppend.hAppend ([.fieldLink RX4 20 "LuckyTicket$Script" "ones" "[J", .fieldLink RX4 24 "LuckyTicket$Script" "others" "[J", .fieldLink RX4 17 "LuckyTicket$Script" "kinds" "[I", .methodLink RX4 43 yX0_sumOf, .static yX0_sumOf, .initialized RX0, .fieldLink RX4 27 "LuckyTicket$Script" "length" "I", .methodLink RX4 57 yX0_isMirror, .static yX0_isMirror, .methodLink RX4 61 yX0_kindsOf, .static yX0_kindsOf, .methodLink RX4 65 yX4_isSquare, .static yX4_isSquare, .initialized RX4] : List Cond) (HAppend.hAppend uX0_sumOf (HAppend.hAppend uX0_isMirror (HAppend.hAppend uX0_kindsOf (HAppend.hAppend uX4_isSquare wsX40)))))
theorem iX4_isSo_X4 : ∀ w ∈ wsX40, w ∈ uX4_isSo := fun _ h => (List.mem_cons_of_mem _ (List.mem_append_right _ (List.mem_append_right _ (List.mem_append_right _ (List.mem_append_right _ (List.mem_append_right _ h))))))
theorem guX4_isSo : GU uX4_isSo := gu_cons (gu_app (by decide +kernel) (gu_ap guX0_sumOf (gu_ap guX0_isMirror (gu_ap guX0_kindsOf (gu_ap guX4_isSquare gws_X4)))))
theorem gX4_isSo__X0_sumOf_S43 : GoodIn uX4_isSo (va_wsS RX4 43 yX0_sumOf uX0_sumOf) := gin_S (List.mem_of_getElem? (i := 4) rfl) (List.mem_of_getElem? (i := 5) rfl) (List.mem_of_getElem? (i := 6) rfl) (fun _ h => (List.mem_cons_of_mem _ (List.mem_append_right _ (List.mem_append_left _ h)))) guX0_sumOf
theorem gX4_isSo__X0_isMirror_S57 : GoodIn uX4_isSo (va_wsS RX4 57 yX0_isMirror uX0_isMirror) := gin_S (List.mem_of_getElem? (i := 8) rfl) (List.mem_of_getElem? (i := 9) rfl) (List.mem_of_getElem? (i := 6) rfl) (fun _ h => (List.mem_cons_of_mem _ (List.mem_append_right _ (List.mem_append_right _ (List.mem_append_left _ h))))) guX0_isMirror
theorem gX4_isSo__X0_kindsOf_S61 : GoodIn uX4_isSo (va_wsS RX4 61 yX0_kindsOf uX0_kindsOf) := gin_S (List.mem_of_getElem? (i := 10) rfl) (List.mem_of_getElem? (i := 11) rfl) (List.mem_of_getElem? (i := 6) rfl) (fun _ h => (List.mem_cons_of_mem _ (List.mem_append_right _ (List.mem_append_right _ (List.mem_append_right _ (List.mem_append_left _ h)))))) guX0_kindsOf
theorem gX4_isSo__X4_isSquare_S65 : GoodIn uX4_isSo (va_wsS RX4 65 yX4_isSquare uX4_isSquare) := gin_S (List.mem_of_getElem? (i := 12) rfl) (List.mem_of_getElem? (i := 13) rfl) (List.mem_of_getElem? (i := 14) rfl) (fun _ h => (List.mem_cons_of_mem _ (List.mem_append_right _ (List.mem_append_right _ (List.mem_append_right _ (List.mem_append_right _ (List.mem_append_left _ h))))))) guX4_isSquare
set_option maxHeartbeats 4000000 in
set_option maxRecDepth 100000 in
theorem kX4_isSo (l : Launch) (dC : Nat → ClassId) (dI : Nat → Nat → Nat) (sc : Nat) (sn : Int32) (sb : Int32) (si : Int32) (sw : Int32) (ss : Int32) (en : Nat) (ki : Nat) (on : Nat) (ot : Nat) (cK : ClassId) (fk : Nat → Int32) (cO : ClassId) (fo : Nat → Int64) (cT : ClassId) (ft : Nat → Int64) (a1 : Int32) (a2 : Int64) (a3 : Int32) (a4 : Int32) (b_sn : (0 : Int) ≤ sn.toInt ∧ sn.toInt ≤ 12) (b_sb : (0 : Int) ≤ sb.toInt ∧ sb.toInt ≤ 16) (b_si : (0 : Int) ≤ si.toInt ∧ si.toInt ≤ 1300) (b_sw : (0 : Int) ≤ sw.toInt ∧ sw.toInt ≤ 9) (b_ss : (0 : Int) ≤ ss.toInt ∧ ss.toInt ≤ 600) (b_a3 : (0 : Int) ≤ a3.toInt ∧ a3.toInt ≤ 255) : Met l yX4_isSo uX4_isSo ({ frames := 2, cells := 0, slots := 0, locals := 46 }) (va_Pc [.ref sc, .int a1, .long a2, .int a3, .int a4] (pw (dC, dI) vwCl [(sc, .inr (3, [.int sn, .int sb, .int si, .int sw, .int ss, .ref en, .ref ki, .ref on, .ref ot])), (ki, .inl (cK, 600, .inl fk)), (on, .inl (cO, 600, .inr (.inl fo))), (ot, .inl (cT, 600, .inr (.inl ft)))] [(cK, .int), (cO, .long), (cT, .long)])) (vp_Si (fun r => ((0 : Int) ≤ r.toInt ∧ r.toInt ≤ 1))) 0 0 (fun _ => False) := by
  refine Met.ofW (cc := cX4_isSo) (maxL := 10) (ret := (some .boolean)) pn_X4 rfl ?_
  intro p e s m args below meth c s₁ B hml hv
  obtain ⟨rfl, hP, hK, hN⟩ := hv
  have hx := B.exec
  have hb := B.bytes
  have hr := B.returns
  have hts := atoms_spec (ws := uX4_isSo) B.pre
  have hown : s.vm.findClass RX4 = some m.cls := hown_of B.named rfl
  have hlocks := B.notSynchronized
  have hl := lv_entry ([.ref sc, .int a1, .long a2, .int a3, .int a4]) (n := 10) (Nat.le_of_ble_eq_true rfl)
  rw [lg_entry_eq]
  generalize (lg_sl ([.ref sc, .int a1, .long a2, .int a3, .int a4]) ++ List.replicate (10 - (lg_sl ([.ref sc, .int a1, .long a2, .int a3, .int a4])).length) Slot.unset).toArray = ls at hl ⊢
  have hl : lv_has ls 10 [(0, .ref sc), (1, .int a1), (2, .long a2), (4, .int a3), (5, .int a4)] := hl
  refine lv_iload_n hx hb dX4_isSo_0 rfl (lv_at hl 1 rfl) ?_
  refine lv_if_lt (tgt := 11) hx hb dX4_isSo_1 (by decide) (fun c_26 => ?_) (fun c_26 => ?_)
  ·
    have n_c_26 : (a1.toInt : Int) < 0 := c_lt rfl (by decide) c_26
    have b_a1 : (-2147483648 : Int) ≤ a1.toInt ∧ a1.toInt ≤ -1 := r_lt1 (ti_rng a1) (by decide : (0 : Int) ≤ (0 : Int32).toInt ∧ (0 : Int32).toInt ≤ 0) n_c_26 (by decide)
    refine lv_iconst (v := 0) hx hb dX4_isSo_11 (by decide) ?_
    exact W.zret (v := 0) hx hb hr rfl (fun t ht hW => ⟨0, rfl, (rg_w (by decide : (0 : Int) ≤ (0 : Int32).toInt ∧ (0 : Int32).toInt ≤ 0) (by decide) (by decide)), ht⟩) t_nil dX4_isSo_12
  ·
    have n_c_26 : (0 : Int) ≤ a1.toInt := c_nlt rfl (by decide) c_26
    have b_a1 : (0 : Int) ≤ a1.toInt ∧ a1.toInt ≤ 2147483647 := r_le2 (by decide : (0 : Int) ≤ (0 : Int32).toInt ∧ (0 : Int32).toInt ≤ 0) (ti_rng a1) n_c_26 (by decide)
    refine lv_iload_n hx hb dX4_isSo_4 rfl (lv_at hl 1 rfl) ?_
    refine lv_sipush (v := 600) hx hb dX4_isSo_5 (by decide) ?_
    refine lv_icmp_lt (tgt := 13) hx hb dX4_isSo_8 (by decide) (fun c_27 => ?_) (fun c_27 => ?_)
    ·
      have n_c_27 : (a1.toInt : Int) < 600 := c_lt rfl (by decide) c_27
      have b_a1 : (0 : Int) ≤ a1.toInt ∧ a1.toInt ≤ 599 := r_lt1 b_a1 (by decide : (600 : Int) ≤ (600 : Int32).toInt ∧ (600 : Int32).toInt ≤ 600) n_c_27 (by decide)
      refine lv_aload_n hx hb dX4_isSo_13 rfl (lv_at hl 0 rfl) ?_
      refine va_get (D := (dC, dI)) (ci := 3) (v := .ref on) (C := RX4) (T := TX4) (N := 9) hx hb hts iX4_isSo_X4 hown hK hP 0 rfl rfl 7 (by decide) (hts (.fieldLink RX4 20 "LuckyTicket$Script" "ones" "[J") (List.mem_of_getElem? (i := 1) rfl)) (fun _ h9 => h9) rfl dX4_isSo_14 ?_
      refine lv_iload_n hx hb dX4_isSo_17 rfl (lv_at hl 1 rfl) ?_
      refine va_lald hx hb hK hP 2 1 rfl rfl (vp_in_b b_a1 (by decide) (by decide)) dX4_isSo_18 ?_
      refine lv_topl (fun z_28 e_z_28 => ?_)
      refine lv_lstore (lv' := [(6, .long z_28), (0, .ref sc), (1, .int a1), (2, .long a2), (4, .int a3), (5, .int a4)]) hx hb dX4_isSo_19 hl (by decide) rfl (fun ls hl => ?_)
      refine lv_aload_n hx hb dX4_isSo_21 rfl (lv_at hl 1 rfl) ?_
      refine va_get (D := (dC, dI)) (ci := 3) (v := .ref ot) (C := RX4) (T := TX4) (N := 9) hx hb hts iX4_isSo_X4 hown hK hP 0 rfl rfl 8 (by decide) (hts (.fieldLink RX4 24 "LuckyTicket$Script" "others" "[J") (List.mem_of_getElem? (i := 2) rfl)) (fun _ h9 => h9) rfl dX4_isSo_22 ?_
      refine lv_iload_n hx hb dX4_isSo_25 rfl (lv_at hl 2 rfl) ?_
      refine va_lald hx hb hK hP 3 2 rfl rfl (vp_in_b b_a1 (by decide) (by decide)) dX4_isSo_26 ?_
      refine lv_topl (fun z_29 e_z_29 => ?_)
      refine lv_lstore (lv' := [(8, .long z_29), (6, .long z_28), (0, .ref sc), (1, .int a1), (2, .long a2), (4, .int a3), (5, .int a4)]) hx hb dX4_isSo_27 hl (by decide) rfl (fun ls hl => ?_)
      refine lv_aload_n hx hb dX4_isSo_29 rfl (lv_at hl 2 rfl) ?_
      refine va_get (D := (dC, dI)) (ci := 3) (v := .ref ki) (C := RX4) (T := TX4) (N := 9) hx hb hts iX4_isSo_X4 hown hK hP 0 rfl rfl 6 (by decide) (hts (.fieldLink RX4 17 "LuckyTicket$Script" "kinds" "[I") (List.mem_of_getElem? (i := 3) rfl)) (fun _ h9 => h9) rfl dX4_isSo_30 ?_
      refine lv_iload_n hx hb dX4_isSo_33 rfl (lv_at hl 3 rfl) ?_
      refine va_iald hx hb hK hP 1 0 rfl rfl (vp_in_b b_a1 (by decide) (by decide)) dX4_isSo_34 ?_
      refine lv_topi (fun z_30 e_z_30 => ?_)
      rcases (show (z_30.toInt < 0 ∨ 5 < z_30.toInt) ∨ z_30.toInt = 0 ∨ z_30.toInt = 1 ∨ z_30.toInt = 2 ∨ z_30.toInt = 3 ∨ z_30.toInt = 4 ∨ z_30.toInt = 5 by omega) with c_31 | c_31 | c_31 | c_31 | c_31 | c_31 | c_31
      ·
        refine lv_tableOut (tgt := 171) hx hb dX4_isSo_35 c_31 (by decide) ?_
        refine lv_iload hx hb dX4_isSo_171 (lv_at hl 6 rfl) ?_
        refine lv_lload hx hb dX4_isSo_173 (lv_at hl 1 rfl) ?_
        obtain ⟨z_32, e_z_32⟩ : ∃ y : Int32, y = z_28.toInt32 := ⟨_, rfl⟩
        refine lv_l2i (v := z_32) hx hb dX4_isSo_175 e_z_32.symm ?_
        obtain ⟨z_33, e_z_33⟩ : ∃ y : Int32, y = ((a4 : Int32).toUInt32 >>> ((z_32 : Int32).toUInt32 &&& Int32.toUInt32 31)).toInt32 := ⟨_, rfl⟩
        refine lv_iushr (v := z_33) hx hb dX4_isSo_176 e_z_33.symm ?_
        refine lv_iconst (v := 1) hx hb dX4_isSo_177 (by decide) ?_
        refine lv_iand hx hb dX4_isSo_178 ?_
        refine lv_topi (fun z_34 e_z_34 => ?_)
        have b_z_34 : (0 : Int) ≤ z_34.toInt ∧ z_34.toInt ≤ 1 := ti_and (k := 1) e_z_34 (by decide) (by decide) (by decide)
        refine lv_if_eq (tgt := 186) hx hb dX4_isSo_179 (by decide) (fun c_35 => ?_) (fun c_35 => ?_)
        ·
          have n_c_35 : (z_34.toInt : Int) = 0 := c_eq rfl (by decide) c_35
          have b_z_34 : (0 : Int) ≤ z_34.toInt ∧ z_34.toInt ≤ 0 := r_eq1 b_z_34 (by decide : (0 : Int) ≤ (0 : Int32).toInt ∧ (0 : Int32).toInt ≤ 0) n_c_35 (by decide)
          refine lv_iconst (v := 0) hx hb dX4_isSo_186 (by decide) ?_
          exact W.zret (v := 0) hx hb hr rfl (fun t ht hW => ⟨0, rfl, (rg_w (by decide : (0 : Int) ≤ (0 : Int32).toInt ∧ (0 : Int32).toInt ≤ 0) (by decide) (by decide)), ht⟩) t_nil dX4_isSo_187
        ·
          have n_c_35 : (z_34.toInt : Int) ≠ 0 := c_ne rfl (by decide) c_35
          have b_z_34 : (1 : Int) ≤ z_34.toInt ∧ z_34.toInt ≤ 1 := r_ne1 b_z_34 (by decide : (0 : Int) ≤ (0 : Int32).toInt ∧ (0 : Int32).toInt ≤ 0) n_c_35 (by decide)
          refine lv_iconst (v := 1) hx hb dX4_isSo_182 (by decide) ?_
          refine lv_goto (tgt := 187) hx hb dX4_isSo_183 (by decide) ?_
          exact W.zret (v := 1) hx hb hr rfl (fun t ht hW => ⟨1, rfl, (rg_w (by decide : (1 : Int) ≤ (1 : Int32).toInt ∧ (1 : Int32).toInt ≤ 1) (by decide) (by decide)), ht⟩) t_nil dX4_isSo_187
      ·
        refine lv_tableIn (off := 37) (tgt := 72) hx hb dX4_isSo_35 (by omega) (by omega) (by rw [c_31]; rfl) (by decide) ?_
        have b_z_30 : (0 : Int) ≤ z_30.toInt ∧ z_30.toInt ≤ 0 := ⟨by omega, by omega⟩
        refine lv_lload_n hx hb dX4_isSo_72 rfl (lv_at hl 4 rfl) ?_
        refine lv_lload hx hb dX4_isSo_73 (lv_at hl 1 rfl) ?_
        refine lv_land hx hb dX4_isSo_75 ?_
        refine lv_topl (fun z_36 e_z_36 => ?_)
        refine vp_callSi (W.runS (As := [.long z_36]) (rest := []) ⟨hx, hb, hml, hown, hts⟩ (kX0_sumOf l dC dI z_36 ) (va_cwS 1 hts gX4_isSo__X0_sumOf_S43 rfl rfl rfl hd_yX0_sumOf.2 ⟨lel 1 2 rfl, lel 23 46 rfl⟩) ⟨pn_fb, pn_use⟩ rfl rfl hl.1 rfl (lv_room (Nat.le_of_ble_eq_true rfl)) dX4_isSo_76 ⟨lel 0 0 rfl, lel 0 0 rfl⟩) (fun r_37 h_r_37 => ?_)
        have b_r_37 := h_r_37
        have b_r_37 : (0 : Int) ≤ r_37.toInt ∧ r_37.toInt ≤ 255 := b_r_37
        refine lv_lload_n hx hb dX4_isSo_79 rfl (lv_at hl 4 rfl) ?_
        refine lv_lload hx hb dX4_isSo_80 (lv_at hl 0 rfl) ?_
        refine lv_land hx hb dX4_isSo_82 ?_
        refine lv_topl (fun z_38 e_z_38 => ?_)
        refine vp_callSi (W.runS (As := [.long z_38]) (rest := [.int r_37]) ⟨hx, hb, hml, hown, hts⟩ (kX0_sumOf l dC dI z_38 ) (va_cwS 1 hts gX4_isSo__X0_sumOf_S43 rfl rfl rfl hd_yX0_sumOf.2 ⟨lel 1 2 rfl, lel 23 46 rfl⟩) ⟨pn_fb, pn_use⟩ rfl rfl hl.1 rfl (lv_room (Nat.le_of_ble_eq_true rfl)) dX4_isSo_83 ⟨lel 0 0 rfl, lel 0 0 rfl⟩) (fun r_39 h_r_39 => ?_)
        have b_r_39 := h_r_39
        have b_r_39 : (0 : Int) ≤ r_39.toInt ∧ r_39.toInt ≤ 255 := b_r_39
        refine lv_icmp_ne (tgt := 93) hx hb dX4_isSo_86 (by decide) (fun c_40 => ?_) (fun c_40 => ?_)
        ·
          have n_c_40 : (r_37.toInt : Int) ≠ r_39.toInt := c_ne rfl rfl c_40
          refine lv_iconst (v := 0) hx hb dX4_isSo_93 (by decide) ?_
          exact W.zret (v := 0) hx hb hr rfl (fun t ht hW => ⟨0, rfl, (rg_w (by decide : (0 : Int) ≤ (0 : Int32).toInt ∧ (0 : Int32).toInt ≤ 0) (by decide) (by decide)), ht⟩) t_nil dX4_isSo_94
        ·
          have n_c_40 : (r_37.toInt : Int) = r_39.toInt := c_eq rfl rfl c_40
          refine lv_iconst (v := 1) hx hb dX4_isSo_89 (by decide) ?_
          refine lv_goto (tgt := 94) hx hb dX4_isSo_90 (by decide) ?_
          exact W.zret (v := 1) hx hb hr rfl (fun t ht hW => ⟨1, rfl, (rg_w (by decide : (1 : Int) ≤ (1 : Int32).toInt ∧ (1 : Int32).toInt ≤ 1) (by decide) (by decide)), ht⟩) t_nil dX4_isSo_94
      ·
        refine lv_tableIn (off := 60) (tgt := 95) hx hb dX4_isSo_35 (by omega) (by omega) (by rw [c_31]; rfl) (by decide) ?_
        have b_z_30 : (1 : Int) ≤ z_30.toInt ∧ z_30.toInt ≤ 1 := ⟨by omega, by omega⟩
        refine lv_lload_n hx hb dX4_isSo_95 rfl (lv_at hl 4 rfl) ?_
        refine lv_aload_n hx hb dX4_isSo_96 rfl (lv_at hl 2 rfl) ?_
        refine va_get (D := (dC, dI)) (ci := 3) (v := .int sn) (C := RX4) (T := TX4) (N := 9) hx hb hts iX4_isSo_X4 hown hK hP 0 rfl rfl 0 (by decide) (hts (.fieldLink RX4 27 "LuckyTicket$Script" "length" "I") (List.mem_of_getElem? (i := 7) rfl)) (fun _ h9 => h9) rfl dX4_isSo_97 ?_
        refine vp_callSi (W.runS (As := [.long a2, .int sn]) (rest := []) ⟨hx, hb, hml, hown, hts⟩ (kX0_isMirror l dC dI a2 sn b_sn) (va_cwS 2 hts gX4_isSo__X0_isMirror_S57 rfl rfl rfl hd_yX0_isMirror.2 ⟨lel 1 2 rfl, lel 27 46 rfl⟩) ⟨pn_fb, pn_use⟩ rfl rfl hl.1 rfl (lv_room (Nat.le_of_ble_eq_true rfl)) dX4_isSo_100 ⟨lel 0 0 rfl, lel 0 0 rfl⟩) (fun r_41 h_r_41 => ?_)
        have b_r_41 := h_r_41
        have b_r_41 : (0 : Int) ≤ r_41.toInt ∧ r_41.toInt ≤ 1 := b_r_41
        exact W.zret (v := r_41) hx hb hr (zn_b b_r_41) (fun t ht hW => ⟨r_41, rfl, b_r_41, ht⟩) t_nil dX4_isSo_103
      ·
        refine lv_tableIn (off := 69) (tgt := 104) hx hb dX4_isSo_35 (by omega) (by omega) (by rw [c_31]; rfl) (by decide) ?_
        have b_z_30 : (2 : Int) ≤ z_30.toInt ∧ z_30.toInt ≤ 2 := ⟨by omega, by omega⟩
        refine lv_lload_n hx hb dX4_isSo_104 rfl (lv_at hl 4 rfl) ?_
        refine lv_aload_n hx hb dX4_isSo_105 rfl (lv_at hl 2 rfl) ?_
        refine va_get (D := (dC, dI)) (ci := 3) (v := .int sn) (C := RX4) (T := TX4) (N := 9) hx hb hts iX4_isSo_X4 hown hK hP 0 rfl rfl 0 (by decide) (hts (.fieldLink RX4 27 "LuckyTicket$Script" "length" "I") (List.mem_of_getElem? (i := 7) rfl)) (fun _ h9 => h9) rfl dX4_isSo_106 ?_
        refine vp_callSi (W.runS (As := [.long a2, .int sn]) (rest := []) ⟨hx, hb, hml, hown, hts⟩ (kX0_kindsOf l dC dI a2 sn b_sn) (va_cwS 2 hts gX4_isSo__X0_kindsOf_S61 rfl rfl rfl hd_yX0_kindsOf.2 ⟨lel 2 2 rfl, lel 46 46 rfl⟩) ⟨pn_fb, pn_use⟩ rfl rfl hl.1 rfl (lv_room (Nat.le_of_ble_eq_true rfl)) dX4_isSo_109 ⟨lel 0 0 rfl, lel 0 0 rfl⟩) (fun r_42 h_r_42 => ?_)
        have b_r_42 := h_r_42
        have b_r_42 : (0 : Int) ≤ r_42.toInt ∧ r_42.toInt ≤ 63 := b_r_42
        refine lv_aload_n hx hb dX4_isSo_112 rfl (lv_at hl 2 rfl) ?_
        refine va_get (D := (dC, dI)) (ci := 3) (v := .int sn) (C := RX4) (T := TX4) (N := 9) hx hb hts iX4_isSo_X4 hown hK hP 0 rfl rfl 0 (by decide) (hts (.fieldLink RX4 27 "LuckyTicket$Script" "length" "I") (List.mem_of_getElem? (i := 7) rfl)) (fun _ h9 => h9) rfl dX4_isSo_113 ?_
        refine lv_icmp_ne (tgt := 123) hx hb dX4_isSo_116 (by decide) (fun c_43 => ?_) (fun c_43 => ?_)
        ·
          have n_c_43 : (r_42.toInt : Int) ≠ sn.toInt := c_ne rfl rfl c_43
          refine lv_iconst (v := 0) hx hb dX4_isSo_123 (by decide) ?_
          exact W.zret (v := 0) hx hb hr rfl (fun t ht hW => ⟨0, rfl, (rg_w (by decide : (0 : Int) ≤ (0 : Int32).toInt ∧ (0 : Int32).toInt ≤ 0) (by decide) (by decide)), ht⟩) t_nil dX4_isSo_124
        ·
          have n_c_43 : (r_42.toInt : Int) = sn.toInt := c_eq rfl rfl c_43
          have b_r_42 : (0 : Int) ≤ r_42.toInt ∧ r_42.toInt ≤ 12 := r_eq1 b_r_42 b_sn n_c_43 (by decide)
          refine lv_iconst (v := 1) hx hb dX4_isSo_119 (by decide) ?_
          refine lv_goto (tgt := 124) hx hb dX4_isSo_120 (by decide) ?_
          exact W.zret (v := 1) hx hb hr rfl (fun t ht hW => ⟨1, rfl, (rg_w (by decide : (1 : Int) ≤ (1 : Int32).toInt ∧ (1 : Int32).toInt ≤ 1) (by decide) (by decide)), ht⟩) t_nil dX4_isSo_124
      ·
        refine lv_tableIn (off := 90) (tgt := 125) hx hb dX4_isSo_35 (by omega) (by omega) (by rw [c_31]; rfl) (by decide) ?_
        have b_z_30 : (3 : Int) ≤ z_30.toInt ∧ z_30.toInt ≤ 3 := ⟨by omega, by omega⟩
        refine lv_iload hx hb dX4_isSo_125 (lv_at hl 5 rfl) ?_
        refine vp_callSi (W.runS (As := [.int a3]) (rest := []) ⟨hx, hb, hml, hown, hts⟩ (kX4_isSquare l dC dI a3 b_a3) (va_cwS 1 hts gX4_isSo__X4_isSquare_S65 rfl rfl rfl hd_yX4_isSquare.2 ⟨lel 1 2 rfl, lel 21 46 rfl⟩) ⟨pn_fb, pn_use⟩ rfl rfl hl.1 rfl (lv_room (Nat.le_of_ble_eq_true rfl)) dX4_isSo_127 ⟨lel 0 0 rfl, lel 0 0 rfl⟩) (fun r_44 h_r_44 => ?_)
        have b_r_44 := h_r_44
        have b_r_44 : (0 : Int) ≤ r_44.toInt ∧ r_44.toInt ≤ 1 := b_r_44
        exact W.zret (v := r_44) hx hb hr (zn_b b_r_44) (fun t ht hW => ⟨r_44, rfl, b_r_44, ht⟩) t_nil dX4_isSo_130
      ·
        refine lv_tableIn (off := 96) (tgt := 131) hx hb dX4_isSo_35 (by omega) (by omega) (by rw [c_31]; rfl) (by decide) ?_
        have b_z_30 : (4 : Int) ≤ z_30.toInt ∧ z_30.toInt ≤ 4 := ⟨by omega, by omega⟩
        refine lv_iload hx hb dX4_isSo_131 (lv_at hl 5 rfl) ?_
        obtain ⟨z_45, e_z_45⟩ : ∃ y : Int64, y = a3.toInt64 := ⟨_, rfl⟩
        refine lv_i2l (v := z_45) hx hb dX4_isSo_133 e_z_45.symm ?_
        obtain ⟨q_z_45, b_z_45⟩ := ti_i2l e_z_45 b_a3
        refine lv_lload hx hb dX4_isSo_134 (lv_at hl 1 rfl) ?_
        refine W.lcmp hx hb dX4_isSo_136 ?_
        refine lv_if_ne (tgt := 144) hx hb dX4_isSo_137 (by decide) (fun c_46 => ?_) (fun c_46 => ?_)
        ·
          have n_c_46 : (z_45.toInt : Int) ≠ z_28.toInt := g_ne rfl rfl c_46
          refine lv_iconst (v := 0) hx hb dX4_isSo_144 (by decide) ?_
          exact W.zret (v := 0) hx hb hr rfl (fun t ht hW => ⟨0, rfl, (rg_w (by decide : (0 : Int) ≤ (0 : Int32).toInt ∧ (0 : Int32).toInt ≤ 0) (by decide) (by decide)), ht⟩) t_nil dX4_isSo_145
        ·
          have n_c_46 : (z_45.toInt : Int) = z_28.toInt := g_eq rfl rfl c_46
          have b_z_28 : (0 : Int) ≤ z_28.toInt ∧ z_28.toInt ≤ 255 := r_eq2 b_z_45 (tl_rng z_28) n_c_46 (by decide)
          refine lv_iconst (v := 1) hx hb dX4_isSo_140 (by decide) ?_
          refine lv_goto (tgt := 145) hx hb dX4_isSo_141 (by decide) ?_
          exact W.zret (v := 1) hx hb hr rfl (fun t ht hW => ⟨1, rfl, (rg_w (by decide : (1 : Int) ≤ (1 : Int32).toInt ∧ (1 : Int32).toInt ≤ 1) (by decide) (by decide)), ht⟩) t_nil dX4_isSo_145
      ·
        refine lv_tableIn (off := 111) (tgt := 146) hx hb dX4_isSo_35 (by omega) (by omega) (by rw [c_31]; rfl) (by decide) ?_
        have b_z_30 : (5 : Int) ≤ z_30.toInt ∧ z_30.toInt ≤ 5 := ⟨by omega, by omega⟩
        refine lv_lload hx hb dX4_isSo_146 (lv_at hl 0 rfl) ?_
        refine lv_lconst (v := 0) hx hb dX4_isSo_148 (by decide) ?_
        refine W.lcmp hx hb dX4_isSo_149 ?_
        refine lv_if_le (tgt := 169) hx hb dX4_isSo_150 (by decide) (fun c_47 => ?_) (fun c_47 => ?_)
        ·
          have n_c_47 : (z_29.toInt : Int) ≤ 0 := g_le rfl (by decide) c_47
          have b_z_29 : (-9223372036854775808 : Int) ≤ z_29.toInt ∧ z_29.toInt ≤ 0 := r_le1 (tl_rng z_29) (by decide : (0 : Int) ≤ (0 : Int64).toInt ∧ (0 : Int64).toInt ≤ 0) n_c_47 (by decide)
          refine lv_iconst (v := 0) hx hb dX4_isSo_169 (by decide) ?_
          exact W.zret (v := 0) hx hb hr rfl (fun t ht hW => ⟨0, rfl, (rg_w (by decide : (0 : Int) ≤ (0 : Int32).toInt ∧ (0 : Int32).toInt ≤ 0) (by decide) (by decide)), ht⟩) t_nil dX4_isSo_170
        ·
          have n_c_47 : (0 : Int) < z_29.toInt := g_nle rfl (by decide) c_47
          have b_z_29 : (1 : Int) ≤ z_29.toInt ∧ z_29.toInt ≤ 9223372036854775807 := r_lt2 (by decide : (0 : Int) ≤ (0 : Int64).toInt ∧ (0 : Int64).toInt ≤ 0) (tl_rng z_29) n_c_47 (by decide)
          refine lv_iload hx hb dX4_isSo_153 (lv_at hl 5 rfl) ?_
          obtain ⟨z_48, e_z_48⟩ : ∃ y : Int64, y = a3.toInt64 := ⟨_, rfl⟩
          refine lv_i2l (v := z_48) hx hb dX4_isSo_155 e_z_48.symm ?_
          obtain ⟨q_z_48, b_z_48⟩ := ti_i2l e_z_48 b_a3
          refine lv_lload hx hb dX4_isSo_156 (lv_at hl 0 rfl) ?_
          refine lv_lrem hx hb dX4_isSo_158 (tl_ne b_z_29 (by decide)) ?_
          refine lv_topl (fun z_49 e_z_49 => ?_)
          obtain ⟨q_z_49, b_z_49⟩ := tl_rem (hi := 255) e_z_49 rfl rfl b_z_48 b_z_29 (by decide)
          refine lv_lload hx hb dX4_isSo_159 (lv_at hl 1 rfl) ?_
          refine W.lcmp hx hb dX4_isSo_161 ?_
          refine lv_if_ne (tgt := 169) hx hb dX4_isSo_162 (by decide) (fun c_50 => ?_) (fun c_50 => ?_)
          ·
            have n_c_50 : (z_49.toInt : Int) ≠ z_28.toInt := g_ne rfl rfl c_50
            refine lv_iconst (v := 0) hx hb dX4_isSo_169 (by decide) ?_
            exact W.zret (v := 0) hx hb hr rfl (fun t ht hW => ⟨0, rfl, (rg_w (by decide : (0 : Int) ≤ (0 : Int32).toInt ∧ (0 : Int32).toInt ≤ 0) (by decide) (by decide)), ht⟩) t_nil dX4_isSo_170
          ·
            have n_c_50 : (z_49.toInt : Int) = z_28.toInt := g_eq rfl rfl c_50
            have b_z_28 : (0 : Int) ≤ z_28.toInt ∧ z_28.toInt ≤ 255 := r_eq2 b_z_49 (tl_rng z_28) n_c_50 (by decide)
            refine lv_iconst (v := 1) hx hb dX4_isSo_165 (by decide) ?_
            refine lv_goto (tgt := 170) hx hb dX4_isSo_166 (by decide) ?_
            exact W.zret (v := 1) hx hb hr rfl (fun t ht hW => ⟨1, rfl, (rg_w (by decide : (1 : Int) ≤ (1 : Int32).toInt ∧ (1 : Int32).toInt ≤ 1) (by decide) (by decide)), ht⟩) t_nil dX4_isSo_170
    ·
      have n_c_27 : (600 : Int) ≤ a1.toInt := c_nlt rfl (by decide) c_27
      have b_a1 : (600 : Int) ≤ a1.toInt ∧ a1.toInt ≤ 2147483647 := r_le2 (by decide : (600 : Int) ≤ (600 : Int32).toInt ∧ (600 : Int32).toInt ≤ 600) b_a1 n_c_27 (by decide)
      refine lv_iconst (v := 0) hx hb dX4_isSo_11 (by decide) ?_
      exact W.zret (v := 0) hx hb hr rfl (fun t ht hW => ⟨0, rfl, (rg_w (by decide : (0 : Int) ≤ (0 : Int32).toInt ∧ (0 : Int32).toInt ≤ 0) (by decide) (by decide)), ht⟩) t_nil dX4_isSo_12
theorem dX4_holds_0 : decode cX4_holds 0 = .ok (.iconst 0, 1) := by decide +kernel
theorem dX4_holds_1 : decode cX4_holds 1 = .ok (.istore 7, 2) := by decide +kernel
theorem dX4_holds_3 : decode cX4_holds 3 = .ok (.iload_n 1, 1) := by decide +kernel
theorem dX4_holds_4 : decode cX4_holds 4 = .ok (.istore 8, 2) := by decide +kernel
theorem dX4_holds_6 : decode cX4_holds 6 = .ok (.iload 8, 2) := by decide +kernel
theorem dX4_holds_8 : decode cX4_holds 8 = .ok (.iload_n 2, 1) := by decide +kernel
theorem dX4_holds_9 : decode cX4_holds 9 = .ok (.if_icmp .ge 111, 3) := by decide +kernel
theorem dX4_holds_12 : decode cX4_holds 12 = .ok (.iload 8, 2) := by decide +kernel
theorem dX4_holds_14 : decode cX4_holds 14 = .ok (.sipush 600, 3) := by decide +kernel
theorem dX4_holds_17 : decode cX4_holds 17 = .ok (.if_icmp .ge 103, 3) := by decide +kernel
theorem dX4_holds_20 : decode cX4_holds 20 = .ok (.aload_n 0, 1) := by decide +kernel
theorem dX4_holds_21 : decode cX4_holds 21 = .ok (.getfield 17, 3) := by decide +kernel
theorem dX4_holds_24 : decode cX4_holds 24 = .ok (.iload 8, 2) := by decide +kernel
theorem dX4_holds_26 : decode cX4_holds 26 = .ok (.iaload, 1) := by decide +kernel
theorem dX4_holds_27 : decode cX4_holds 27 = .ok (.istore 9, 2) := by decide +kernel
theorem dX4_holds_29 : decode cX4_holds 29 = .ok (.iload 9, 2) := by decide +kernel
theorem dX4_holds_31 : decode cX4_holds 31 = .ok (.bipush 7, 2) := by decide +kernel
theorem dX4_holds_33 : decode cX4_holds 33 = .ok (.if_icmp .ne 12, 3) := by decide +kernel
theorem dX4_holds_36 : decode cX4_holds 36 = .ok (.iload 7, 2) := by decide +kernel
theorem dX4_holds_38 : decode cX4_holds 38 = .ok (.iconst 1, 1) := by decide +kernel
theorem dX4_holds_39 : decode cX4_holds 39 = .ok (.ixor, 1) := by decide +kernel
theorem dX4_holds_40 : decode cX4_holds 40 = .ok (.istore 7, 2) := by decide +kernel
theorem dX4_holds_42 : decode cX4_holds 42 = .ok (.goto 72, 3) := by decide +kernel
theorem dX4_holds_45 : decode cX4_holds 45 = .ok (.iload 9, 2) := by decide +kernel
theorem dX4_holds_47 : decode cX4_holds 47 = .ok (.bipush 8, 2) := by decide +kernel
theorem dX4_holds_49 : decode cX4_holds 49 = .ok (.if_icmp .ne 18, 3) := by decide +kernel
theorem dX4_holds_52 : decode cX4_holds 52 = .ok (.iload 7, 2) := by decide +kernel
theorem dX4_holds_54 : decode cX4_holds 54 = .ok (.iconst 1, 1) := by decide +kernel
theorem dX4_holds_55 : decode cX4_holds 55 = .ok (.iushr, 1) := by decide +kernel
theorem dX4_holds_56 : decode cX4_holds 56 = .ok (.iload 7, 2) := by decide +kernel
theorem dX4_holds_58 : decode cX4_holds 58 = .ok (.bipush (-2), 2) := by decide +kernel
theorem dX4_holds_60 : decode cX4_holds 60 = .ok (.ior, 1) := by decide +kernel
theorem dX4_holds_61 : decode cX4_holds 61 = .ok (.iand, 1) := by decide +kernel
theorem dX4_holds_62 : decode cX4_holds 62 = .ok (.istore 7, 2) := by decide +kernel
theorem dX4_holds_64 : decode cX4_holds 64 = .ok (.goto 50, 3) := by decide +kernel
theorem dX4_holds_67 : decode cX4_holds 67 = .ok (.iload 9, 2) := by decide +kernel
theorem dX4_holds_69 : decode cX4_holds 69 = .ok (.bipush 9, 2) := by decide +kernel
theorem dX4_holds_71 : decode cX4_holds 71 = .ok (.if_icmp .ne 17, 3) := by decide +kernel
theorem dX4_holds_74 : decode cX4_holds 74 = .ok (.iload 7, 2) := by decide +kernel
theorem dX4_holds_76 : decode cX4_holds 76 = .ok (.iconst 1, 1) := by decide +kernel
theorem dX4_holds_77 : decode cX4_holds 77 = .ok (.iushr, 1) := by decide +kernel
theorem dX4_holds_78 : decode cX4_holds 78 = .ok (.iload 7, 2) := by decide +kernel
theorem dX4_holds_80 : decode cX4_holds 80 = .ok (.iconst 1, 1) := by decide +kernel
theorem dX4_holds_81 : decode cX4_holds 81 = .ok (.iand, 1) := by decide +kernel
theorem dX4_holds_82 : decode cX4_holds 82 = .ok (.ior, 1) := by decide +kernel
theorem dX4_holds_83 : decode cX4_holds 83 = .ok (.istore 7, 2) := by decide +kernel
theorem dX4_holds_85 : decode cX4_holds 85 = .ok (.goto 29, 3) := by decide +kernel
theorem dX4_holds_88 : decode cX4_holds 88 = .ok (.iload 7, 2) := by decide +kernel
theorem dX4_holds_90 : decode cX4_holds 90 = .ok (.iconst 1, 1) := by decide +kernel
theorem dX4_holds_91 : decode cX4_holds 91 = .ok (.ishl, 1) := by decide +kernel
theorem dX4_holds_92 : decode cX4_holds 92 = .ok (.aload_n 0, 1) := by decide +kernel
theorem dX4_holds_93 : decode cX4_holds 93 = .ok (.iload 8, 2) := by decide +kernel
theorem dX4_holds_95 : decode cX4_holds 95 = .ok (.lload_n 3, 1) := by decide +kernel
theorem dX4_holds_96 : decode cX4_holds 96 = .ok (.iload 5, 2) := by decide +kernel
theorem dX4_holds_98 : decode cX4_holds 98 = .ok (.iload 6, 2) := by decide +kernel
theorem dX4_holds_100 : decode cX4_holds 100 = .ok (.invokevirtual 53, 3) := by decide +kernel
theorem dX4_holds_103 : decode cX4_holds 103 = .ok (.ifCond .eq 7, 3) := by decide +kernel
theorem dX4_holds_106 : decode cX4_holds 106 = .ok (.iconst 1, 1) := by decide +kernel
theorem dX4_holds_107 : decode cX4_holds 107 = .ok (.goto 4, 3) := by decide +kernel
theorem dX4_holds_110 : decode cX4_holds 110 = .ok (.iconst 0, 1) := by decide +kernel
theorem dX4_holds_111 : decode cX4_holds 111 = .ok (.ior, 1) := by decide +kernel
theorem dX4_holds_112 : decode cX4_holds 112 = .ok (.istore 7, 2) := by decide +kernel
theorem dX4_holds_114 : decode cX4_holds 114 = .ok (.iinc 8 1, 3) := by decide +kernel
theorem dX4_holds_117 : decode cX4_holds 117 = .ok (.goto (-111), 3) := by decide +kernel
theorem dX4_holds_120 : decode cX4_holds 120 = .ok (.iload 7, 2) := by decide +kernel
theorem dX4_holds_122 : decode cX4_holds 122 = .ok (.iconst 1, 1) := by decide +kernel
theorem dX4_holds_123 : decode cX4_holds 123 = .ok (.iand, 1) := by decide +kernel
theorem dX4_holds_124 : decode cX4_holds 124 = .ok (.ifCond .eq 7, 3) := by decide +kernel
theorem dX4_holds_127 : decode cX4_holds 127 = .ok (.iconst 1, 1) := by decide +kernel
theorem dX4_holds_128 : decode cX4_holds 128 = .ok (.goto 4, 3) := by decide +kernel
theorem dX4_holds_131 : decode cX4_holds 131 = .ok (.iconst 0, 1) := by decide +kernel
theorem dX4_holds_132 : decode cX4_holds 132 = .ok (.ireturn, 1) := by decide +kernel
theorem hd_yX4_holds : yX4_holds.cls = RX4 ∧ yX4_holds.cls ≠ "java/lang/invoke/MethodHandle" ∧ yX4_holds.cls ≠ "java/lang/invoke/VarHandle" ∧ (parseMethodDescriptor yX4_holds.desc).map (fun d => d.parameters.length) = some 5 := by decide +kernel
def uX4_holds : List Cond := List.cons (.code yX4_holds cX4_holds 10 (some .boolean)) (HAppend.hAppend ([.fieldLink RX4 17 "LuckyTicket$Script" "kinds" "[I", .methodLink RX4 53 yX4_isSo, .instanceMethod yX4_isSo, .selects RX4 yX4_isSo yX4_isSo, .initialized RX4] : List Cond) (HAppend.hAppend uX4_isSo wsX40))
theorem iX4_holds_X4 : ∀ w ∈ wsX40, w ∈ uX4_holds := fun _ h => (List.mem_cons_of_mem _ (List.mem_append_right _ (List.mem_append_right _ h)))
theorem guX4_holds : GU uX4_holds := gu_cons (gu_app (by decide +kernel) (gu_ap guX4_isSo gws_X4))
theorem gX4_holds__X4_isSo_V53 : GoodIn uX4_holds (wsV RX4 53 RX4 yX4_isSo uX4_isSo) := gin_V (List.mem_of_getElem? (i := 2) rfl) (List.mem_of_getElem? (i := 3) rfl) (List.mem_of_getElem? (i := 4) rfl) (List.mem_of_getElem? (i := 5) rfl) (fun _ h => (List.mem_cons_of_mem _ (List.mem_append_right _ (List.mem_append_left _ h)))) guX4_isSo
set_option maxHeartbeats 4000000 in
set_option maxRecDepth 100000 in
theorem kX4_holds (l : Launch) (dC : Nat → ClassId) (dI : Nat → Nat → Nat) (sc : Nat) (sn : Int32) (sb : Int32) (si : Int32) (sw : Int32) (ss : Int32) (en : Nat) (ki : Nat) (on : Nat) (ot : Nat) (cK : ClassId) (fk : Nat → Int32) (cO : ClassId) (fo : Nat → Int64) (cT : ClassId) (ft : Nat → Int64) (a1 : Int32) (a2 : Int32) (a3 : Int64) (a4 : Int32) (a5 : Int32) (b_sn : (0 : Int) ≤ sn.toInt ∧ sn.toInt ≤ 12) (b_sb : (0 : Int) ≤ sb.toInt ∧ sb.toInt ≤ 16) (b_si : (0 : Int) ≤ si.toInt ∧ si.toInt ≤ 1300) (b_sw : (0 : Int) ≤ sw.toInt ∧ sw.toInt ≤ 9) (b_ss : (0 : Int) ≤ ss.toInt ∧ ss.toInt ≤ 600) (b_a4 : (0 : Int) ≤ a4.toInt ∧ a4.toInt ≤ 255) (b_a1 : (0 : Int) ≤ a1.toInt ∧ a1.toInt ≤ 600) (b_a2 : (0 : Int) ≤ a2.toInt ∧ a2.toInt ≤ 600) : Met l yX4_holds uX4_holds ({ frames := 3, cells := 0, slots := 0, locals := 75 }) (va_Pc [.ref sc, .int a1, .int a2, .long a3, .int a4, .int a5] (pw (dC, dI) vwCl [(sc, .inr (3, [.int sn, .int sb, .int si, .int sw, .int ss, .ref en, .ref ki, .ref on, .ref ot])), (ki, .inl (cK, 600, .inl fk)), (on, .inl (cO, 600, .inr (.inl fo))), (ot, .inl (cT, 600, .inr (.inl ft)))] [(cK, .int), (cO, .long), (cT, .long)])) (vp_Si (fun r => ((0 : Int) ≤ r.toInt ∧ r.toInt ≤ 1))) 0 0 (fun _ => False) := by
  refine Met.ofW (cc := cX4_holds) (maxL := 10) (ret := (some .boolean)) pn_X4 rfl ?_
  intro p e s m args below meth c s₁ B hml hv
  obtain ⟨rfl, hP, hK, hN⟩ := hv
  have hx := B.exec
  have hb := B.bytes
  have hr := B.returns
  have hts := atoms_spec (ws := uX4_holds) B.pre
  have hown : s.vm.findClass RX4 = some m.cls := hown_of B.named rfl
  have hlocks := B.notSynchronized
  have hl := lv_entry ([.ref sc, .int a1, .int a2, .long a3, .int a4, .int a5]) (n := 10) (Nat.le_of_ble_eq_true rfl)
  rw [lg_entry_eq]
  generalize (lg_sl ([.ref sc, .int a1, .int a2, .long a3, .int a4, .int a5]) ++ List.replicate (10 - (lg_sl ([.ref sc, .int a1, .int a2, .long a3, .int a4, .int a5])).length) Slot.unset).toArray = ls at hl ⊢
  have hl : lv_has ls 10 [(0, .ref sc), (1, .int a1), (2, .int a2), (3, .long a3), (5, .int a4), (6, .int a5)] := hl
  refine lv_iconst (v := 0) hx hb dX4_holds_0 (by decide) ?_
  refine lv_istore (lv' := [(7, .int 0), (0, .ref sc), (1, .int a1), (2, .int a2), (3, .long a3), (5, .int a4), (6, .int a5)]) hx hb dX4_holds_1 hl (by decide) rfl (fun ls hl => ?_)
  refine lv_iload_n hx hb dX4_holds_3 rfl (lv_at hl 2 rfl) ?_
  refine lv_istore (lv' := [(8, .int a1), (7, .int 0), (0, .ref sc), (1, .int a1), (2, .int a2), (3, .long a3), (5, .int a4), (6, .int a5)]) hx hb dX4_holds_4 hl (by decide) rfl (fun ls hl => ?_)
  refine loopP (σ := Int32 × Int32) (fun v => (600 - v.1.toInt).toNat) (fun v ls => ((0 : Int) ≤ v.1.toInt ∧ v.1.toInt ≤ 600) ∧ lv_has ls 10 [(8, .int v.1), (7, .int v.2), (0, .ref sc), (1, .int a1), (2, .int a2), (3, .long a3), (5, .int a4), (6, .int a5)]) (fun v ls hI ih_6_349 => ?_) (a1, (0 : Int32)) ⟨(show (0 : Int) ≤ a1.toInt ∧ a1.toInt ≤ 600 from b_a1), lv_sub hl [0, 1, 2, 3, 4, 5, 6, 7] rfl⟩
  obtain ⟨y_279, y_280⟩ := v
  obtain ⟨b_y_279, hl⟩ := hI
  have b_y_279 : (0 : Int) ≤ y_279.toInt ∧ y_279.toInt ≤ 600 := b_y_279
  have hl : lv_has ls 10 [(8, .int y_279), (7, .int y_280), (0, .ref sc), (1, .int a1), (2, .int a2), (3, .long a3), (5, .int a4), (6, .int a5)] := hl
  refine lv_iload hx hb dX4_holds_6 (lv_at hl 0 rfl) ?_
  refine lv_iload_n hx hb dX4_holds_8 rfl (lv_at hl 4 rfl) ?_
  refine lv_icmp_ge (tgt := 120) hx hb dX4_holds_9 (by decide) (fun c_350 => ?_) (fun c_350 => ?_)
  ·
    have n_c_350 : (a2.toInt : Int) ≤ y_279.toInt := c_ge rfl rfl c_350
    refine lv_iload hx hb dX4_holds_120 (lv_at hl 1 rfl) ?_
    refine lv_iconst (v := 1) hx hb dX4_holds_122 (by decide) ?_
    refine lv_iand hx hb dX4_holds_123 ?_
    refine lv_topi (fun z_384 e_z_384 => ?_)
    have b_z_384 : (0 : Int) ≤ z_384.toInt ∧ z_384.toInt ≤ 1 := ti_and (k := 1) e_z_384 (by decide) (by decide) (by decide)
    refine lv_if_eq (tgt := 131) hx hb dX4_holds_124 (by decide) (fun c_385 => ?_) (fun c_385 => ?_)
    ·
      have n_c_385 : (z_384.toInt : Int) = 0 := c_eq rfl (by decide) c_385
      have b_z_384 : (0 : Int) ≤ z_384.toInt ∧ z_384.toInt ≤ 0 := r_eq1 b_z_384 (by decide : (0 : Int) ≤ (0 : Int32).toInt ∧ (0 : Int32).toInt ≤ 0) n_c_385 (by decide)
      refine lv_iconst (v := 0) hx hb dX4_holds_131 (by decide) ?_
      exact W.zret (v := 0) hx hb hr rfl (fun t ht hW => ⟨0, rfl, (rg_w (by decide : (0 : Int) ≤ (0 : Int32).toInt ∧ (0 : Int32).toInt ≤ 0) (by decide) (by decide)), ht⟩) t_nil dX4_holds_132
    ·
      have n_c_385 : (z_384.toInt : Int) ≠ 0 := c_ne rfl (by decide) c_385
      have b_z_384 : (1 : Int) ≤ z_384.toInt ∧ z_384.toInt ≤ 1 := r_ne1 b_z_384 (by decide : (0 : Int) ≤ (0 : Int32).toInt ∧ (0 : Int32).toInt ≤ 0) n_c_385 (by decide)
      refine lv_iconst (v := 1) hx hb dX4_holds_127 (by decide) ?_
      refine lv_goto (tgt := 132) hx hb dX4_holds_128 (by decide) ?_
      exact W.zret (v := 1) hx hb hr rfl (fun t ht hW => ⟨1, rfl, (rg_w (by decide : (1 : Int) ≤ (1 : Int32).toInt ∧ (1 : Int32).toInt ≤ 1) (by decide) (by decide)), ht⟩) t_nil dX4_holds_132
  ·
    have n_c_350 : (y_279.toInt : Int) < a2.toInt := c_nge rfl rfl c_350
    have b_y_279 : (0 : Int) ≤ y_279.toInt ∧ y_279.toInt ≤ 599 := r_lt1 b_y_279 b_a2 n_c_350 (by decide)
    have b_a2 : (1 : Int) ≤ a2.toInt ∧ a2.toInt ≤ 600 := r_lt2 b_y_279 b_a2 n_c_350 (by decide)
    refine lv_iload hx hb dX4_holds_12 (lv_at hl 0 rfl) ?_
    refine lv_sipush (v := 600) hx hb dX4_holds_14 (by decide) ?_
    refine lv_icmp_ge (tgt := 120) hx hb dX4_holds_17 (by decide) (fun c_386 => absurd (show (600 : Int) ≤ y_279.toInt from c_ge rfl (by decide) c_386) (by have q1 := b_y_279; have q2 := (by decide : (600 : Int) ≤ (600 : Int32).toInt ∧ (600 : Int32).toInt ≤ 600); omega)) (fun c_386 => ?_)
    refine lv_aload_n hx hb dX4_holds_20 rfl (lv_at hl 2 rfl) ?_
    refine va_get (D := (dC, dI)) (ci := 3) (v := .ref ki) (C := RX4) (T := TX4) (N := 9) hx hb hts iX4_holds_X4 hown hK hP 0 rfl rfl 6 (by decide) (hts (.fieldLink RX4 17 "LuckyTicket$Script" "kinds" "[I") (List.mem_of_getElem? (i := 1) rfl)) (fun _ h9 => h9) rfl dX4_holds_21 ?_
    refine lv_iload hx hb dX4_holds_24 (lv_at hl 0 rfl) ?_
    refine va_iald hx hb hK hP 1 0 rfl rfl (vp_in_b b_y_279 (by decide) (by decide)) dX4_holds_26 ?_
    refine lv_topi (fun z_387 e_z_387 => ?_)
    refine lv_istore (lv' := [(9, .int z_387), (8, .int y_279), (7, .int y_280), (0, .ref sc), (1, .int a1), (2, .int a2), (3, .long a3), (5, .int a4), (6, .int a5)]) hx hb dX4_holds_27 hl (by decide) rfl (fun ls hl => ?_)
    refine lv_iload hx hb dX4_holds_29 (lv_at hl 0 rfl) ?_
    refine lv_bipush (v := 7) hx hb dX4_holds_31 (by decide) ?_
    refine cutP (σ := Int32) (pc2 := 114) (st2 := fun v => []) (cells2 := 0) (slots2 := 0) (fun v ls => lv_has ls 10 [(7, .int v), (9, .int z_387), (8, .int y_279), (0, .ref sc), (1, .int a1), (2, .int a2), (3, .long a3), (5, .int a4), (6, .int a5)]) (fun v ls hI => ?_) (fun hj_114_403 => ?_)
    ·
      obtain ⟨y_403, rfl⟩ : ∃ z, z = v := ⟨_, rfl⟩
      have hl := hI
      have hl : lv_has ls 10 [(7, .int y_403), (9, .int z_387), (8, .int y_279), (0, .ref sc), (1, .int a1), (2, .int a2), (3, .long a3), (5, .int a4), (6, .int a5)] := hl
      obtain ⟨z_404, e_z_404⟩ : ∃ y : Int32, y = y_279 + 1 := ⟨_, rfl⟩
      refine lv_iinc (v := z_404) (lv' := [(8, .int z_404), (7, .int y_403), (9, .int z_387), (0, .ref sc), (1, .int a1), (2, .int a2), (3, .long a3), (5, .int a4), (6, .int a5)]) hx hb dX4_holds_114 hl (k := 2) rfl (by rw [e_z_404]; rfl) (by decide) rfl (fun ls hl => ?_)
      obtain ⟨q_z_404, b_z_404⟩ := ti_add (lo := 1) (hi := 600) e_z_404 rfl (by decide : (1 : Int32).toInt = 1) b_y_279 (by decide : (1 : Int) ≤ (1 : Int32).toInt ∧ (1 : Int32).toInt ≤ 1) (by decide)
      refine lv_goto (tgt := 6) hx hb dX4_holds_117 (by decide) ?_
      exact ih_6_349 (z_404, y_403) _ ⟨(show (0 : Int) ≤ z_404.toInt ∧ z_404.toInt ≤ 600 from (rg_w b_z_404 (by decide) (by decide))), lv_sub hl [0, 1, 3, 4, 5, 6, 7, 8] rfl⟩ (show (600 - z_404.toInt).toNat < (600 - y_279.toInt).toNat by omega)
    ·
      refine lv_icmp_ne (tgt := 45) hx hb dX4_holds_33 (by decide) (fun c_388 => ?_) (fun c_388 => ?_)
      ·
        have n_c_388 : (z_387.toInt : Int) ≠ 7 := c_ne rfl (by decide) c_388
        refine lv_iload hx hb dX4_holds_45 (lv_at hl 0 rfl) ?_
        refine lv_bipush (v := 8) hx hb dX4_holds_47 (by decide) ?_
        refine lv_icmp_ne (tgt := 67) hx hb dX4_holds_49 (by decide) (fun c_405 => ?_) (fun c_405 => ?_)
        ·
          have n_c_405 : (z_387.toInt : Int) ≠ 8 := c_ne rfl (by decide) c_405
          refine lv_iload hx hb dX4_holds_67 (lv_at hl 0 rfl) ?_
          refine lv_bipush (v := 9) hx hb dX4_holds_69 (by decide) ?_
          refine lv_icmp_ne (tgt := 88) hx hb dX4_holds_71 (by decide) (fun c_406 => ?_) (fun c_406 => ?_)
          ·
            have n_c_406 : (z_387.toInt : Int) ≠ 9 := c_ne rfl (by decide) c_406
            refine lv_iload hx hb dX4_holds_88 (lv_at hl 2 rfl) ?_
            refine lv_iconst (v := 1) hx hb dX4_holds_90 (by decide) ?_
            refine lv_ishl hx hb dX4_holds_91 ?_
            refine lv_topi (fun z_407 e_z_407 => ?_)
            refine lv_aload_n hx hb dX4_holds_92 rfl (lv_at hl 3 rfl) ?_
            refine lv_iload hx hb dX4_holds_93 (lv_at hl 1 rfl) ?_
            refine lv_lload_n hx hb dX4_holds_95 rfl (lv_at hl 6 rfl) ?_
            refine lv_iload hx hb dX4_holds_96 (lv_at hl 7 rfl) ?_
            refine lv_iload hx hb dX4_holds_98 (lv_at hl 8 rfl) ?_
            refine vp_callSi (W.runV (As := [.int y_279, .long a3, .int a4, .int a5]) (rest := [.int z_407]) ⟨hx, hb, hml, hown, hts⟩ (kX4_isSo l dC dI sc sn sb si sw ss en ki on ot cK fk cO fo cT ft y_279 a3 a4 a5 b_sn b_sb b_si b_sw b_ss b_a4) (cwV 4 hts gX4_holds__X4_isSo_V53 rfl rfl rfl hd_yX4_isSo ⟨lel 3 3 rfl, lel 75 75 rfl⟩) ⟨pw_fb, rcv_X4 hK hP (q0 := 0) rfl, (pw_use hP hK hN [0, 1, 2, 3] rfl [0, 1, 2] rfl)⟩ rfl rfl hl.1 rfl (lv_room (Nat.le_of_ble_eq_true rfl)) dX4_holds_100 ⟨lel 0 0 rfl, lel 0 0 rfl⟩) (fun r_408 h_r_408 => ?_)
            have b_r_408 := h_r_408
            have b_r_408 : (0 : Int) ≤ r_408.toInt ∧ r_408.toInt ≤ 1 := b_r_408
            refine cutP (σ := Int32) (pc2 := 111) (st2 := fun v => [.int v, .int z_407]) (cells2 := 0) (slots2 := 0) (fun v ls => ((0 : Int) ≤ v.toInt ∧ v.toInt ≤ 1) ∧ lv_has ls 10 [(9, .int z_387), (8, .int y_279), (7, .int y_280), (0, .ref sc), (1, .int a1), (2, .int a2), (3, .long a3), (5, .int a4), (6, .int a5)]) (fun v ls hI => ?_) (fun hj_111_410 => ?_)
            ·
              obtain ⟨y_410, rfl⟩ : ∃ z, z = v := ⟨_, rfl⟩
              obtain ⟨b_y_410, hl⟩ := hI
              have b_y_410 : (0 : Int) ≤ y_410.toInt ∧ y_410.toInt ≤ 1 := b_y_410
              have hl : lv_has ls 10 [(9, .int z_387), (8, .int y_279), (7, .int y_280), (0, .ref sc), (1, .int a1), (2, .int a2), (3, .long a3), (5, .int a4), (6, .int a5)] := hl
              refine lv_ior hx hb dX4_holds_111 ?_
              refine lv_topi (fun z_411 e_z_411 => ?_)
              refine lv_istore (lv' := [(7, .int z_411), (9, .int z_387), (8, .int y_279), (0, .ref sc), (1, .int a1), (2, .int a2), (3, .long a3), (5, .int a4), (6, .int a5)]) hx hb dX4_holds_112 hl (by decide) rfl (fun ls hl => ?_)
              exact hj_114_403 z_411 _ (lv_sub hl [0, 1, 2, 3, 4, 5, 6, 7, 8] rfl)
            ·
              refine lv_if_eq (tgt := 110) hx hb dX4_holds_103 (by decide) (fun c_409 => ?_) (fun c_409 => ?_)
              ·
                have n_c_409 : (r_408.toInt : Int) = 0 := c_eq rfl (by decide) c_409
                have b_r_408 : (0 : Int) ≤ r_408.toInt ∧ r_408.toInt ≤ 0 := r_eq1 b_r_408 (by decide : (0 : Int) ≤ (0 : Int32).toInt ∧ (0 : Int32).toInt ≤ 0) n_c_409 (by decide)
                refine lv_iconst (v := 0) hx hb dX4_holds_110 (by decide) ?_
                exact hj_111_410 (0 : Int32) _ ⟨(show (0 : Int) ≤ (0 : Int32).toInt ∧ (0 : Int32).toInt ≤ 1 from (rg_w (by decide : (0 : Int) ≤ (0 : Int32).toInt ∧ (0 : Int32).toInt ≤ 0) (by decide) (by decide))), lv_sub hl [0, 1, 2, 3, 4, 5, 6, 7, 8] rfl⟩
              ·
                have n_c_409 : (r_408.toInt : Int) ≠ 0 := c_ne rfl (by decide) c_409
                have b_r_408 : (1 : Int) ≤ r_408.toInt ∧ r_408.toInt ≤ 1 := r_ne1 b_r_408 (by decide : (0 : Int) ≤ (0 : Int32).toInt ∧ (0 : Int32).toInt ≤ 0) n_c_409 (by decide)
                refine lv_iconst (v := 1) hx hb dX4_holds_106 (by decide) ?_
                refine lv_goto (tgt := 111) hx hb dX4_holds_107 (by decide) ?_
                exact hj_111_410 (1 : Int32) _ ⟨(show (0 : Int) ≤ (1 : Int32).toInt ∧ (1 : Int32).toInt ≤ 1 from (rg_w (by decide : (1 : Int) ≤ (1 : Int32).toInt ∧ (1 : Int32).toInt ≤ 1) (by decide) (by decide))), lv_sub hl [0, 1, 2, 3, 4, 5, 6, 7, 8] rfl⟩
          ·
            have n_c_406 : (z_387.toInt : Int) = 9 := c_eq rfl (by decide) c_406
            have b_z_387 : (9 : Int) ≤ z_387.toInt ∧ z_387.toInt ≤ 9 := r_eq1 (ti_rng z_387) (by decide : (9 : Int) ≤ (9 : Int32).toInt ∧ (9 : Int32).toInt ≤ 9) n_c_406 (by decide)
            refine lv_iload hx hb dX4_holds_74 (lv_at hl 2 rfl) ?_
            refine lv_iconst (v := 1) hx hb dX4_holds_76 (by decide) ?_
            obtain ⟨z_412, e_z_412⟩ : ∃ y : Int32, y = ((y_280 : Int32).toUInt32 >>> ((1 : Int32).toUInt32 &&& Int32.toUInt32 31)).toInt32 := ⟨_, rfl⟩
            refine lv_iushr (v := z_412) hx hb dX4_holds_77 e_z_412.symm ?_
            refine lv_iload hx hb dX4_holds_78 (lv_at hl 2 rfl) ?_
            refine lv_iconst (v := 1) hx hb dX4_holds_80 (by decide) ?_
            refine lv_iand hx hb dX4_holds_81 ?_
            refine lv_topi (fun z_413 e_z_413 => ?_)
            have b_z_413 : (0 : Int) ≤ z_413.toInt ∧ z_413.toInt ≤ 1 := ti_and (k := 1) e_z_413 (by decide) (by decide) (by decide)
            refine lv_ior hx hb dX4_holds_82 ?_
            refine lv_topi (fun z_414 e_z_414 => ?_)
            refine lv_istore (lv' := [(7, .int z_414), (9, .int z_387), (8, .int y_279), (0, .ref sc), (1, .int a1), (2, .int a2), (3, .long a3), (5, .int a4), (6, .int a5)]) hx hb dX4_holds_83 hl (by decide) rfl (fun ls hl => ?_)
            refine lv_goto (tgt := 114) hx hb dX4_holds_85 (by decide) ?_
            exact hj_114_403 z_414 _ (lv_sub hl [0, 1, 2, 3, 4, 5, 6, 7, 8] rfl)
        ·
          have n_c_405 : (z_387.toInt : Int) = 8 := c_eq rfl (by decide) c_405
          have b_z_387 : (8 : Int) ≤ z_387.toInt ∧ z_387.toInt ≤ 8 := r_eq1 (ti_rng z_387) (by decide : (8 : Int) ≤ (8 : Int32).toInt ∧ (8 : Int32).toInt ≤ 8) n_c_405 (by decide)
          refine lv_iload hx hb dX4_holds_52 (lv_at hl 2 rfl) ?_
          refine lv_iconst (v := 1) hx hb dX4_holds_54 (by decide) ?_
          obtain ⟨z_415, e_z_415⟩ : ∃ y : Int32, y = ((y_280 : Int32).toUInt32 >>> ((1 : Int32).toUInt32 &&& Int32.toUInt32 31)).toInt32 := ⟨_, rfl⟩
          refine lv_iushr (v := z_415) hx hb dX4_holds_55 e_z_415.symm ?_
          refine lv_iload hx hb dX4_holds_56 (lv_at hl 2 rfl) ?_
          refine lv_bipush (v := (-2)) hx hb dX4_holds_58 (by decide) ?_
          refine lv_ior hx hb dX4_holds_60 ?_
          refine lv_topi (fun z_416 e_z_416 => ?_)
          refine lv_iand hx hb dX4_holds_61 ?_
          refine lv_topi (fun z_417 e_z_417 => ?_)
          refine lv_istore (lv' := [(7, .int z_417), (9, .int z_387), (8, .int y_279), (0, .ref sc), (1, .int a1), (2, .int a2), (3, .long a3), (5, .int a4), (6, .int a5)]) hx hb dX4_holds_62 hl (by decide) rfl (fun ls hl => ?_)
          refine lv_goto (tgt := 114) hx hb dX4_holds_64 (by decide) ?_
          exact hj_114_403 z_417 _ (lv_sub hl [0, 1, 2, 3, 4, 5, 6, 7, 8] rfl)
      ·
        have n_c_388 : (z_387.toInt : Int) = 7 := c_eq rfl (by decide) c_388
        have b_z_387 : (7 : Int) ≤ z_387.toInt ∧ z_387.toInt ≤ 7 := r_eq1 (ti_rng z_387) (by decide : (7 : Int) ≤ (7 : Int32).toInt ∧ (7 : Int32).toInt ≤ 7) n_c_388 (by decide)
        refine lv_iload hx hb dX4_holds_36 (lv_at hl 2 rfl) ?_
        refine lv_iconst (v := 1) hx hb dX4_holds_38 (by decide) ?_
        refine lv_ixor hx hb dX4_holds_39 ?_
        refine lv_topi (fun z_418 e_z_418 => ?_)
        refine lv_istore (lv' := [(7, .int z_418), (9, .int z_387), (8, .int y_279), (0, .ref sc), (1, .int a1), (2, .int a2), (3, .long a3), (5, .int a4), (6, .int a5)]) hx hb dX4_holds_40 hl (by decide) rfl (fun ls hl => ?_)
        refine lv_goto (tgt := 114) hx hb dX4_holds_42 (by decide) ?_
        exact hj_114_403 z_418 _ (lv_sub hl [0, 1, 2, 3, 4, 5, 6, 7, 8] rfl)
theorem dX4_luckOf_0 : decode cX4_luckOf 0 = .ok (.lload_n 1, 1) := by decide +kernel
theorem dX4_luckOf_1 : decode cX4_luckOf 1 = .ok (.invokestatic 43, 3) := by decide +kernel
theorem dX4_luckOf_4 : decode cX4_luckOf 4 = .ok (.istore_n 3, 1) := by decide +kernel
theorem dX4_luckOf_5 : decode cX4_luckOf 5 = .ok (.iconst 0, 1) := by decide +kernel
theorem dX4_luckOf_6 : decode cX4_luckOf 6 = .ok (.istore 4, 2) := by decide +kernel
theorem dX4_luckOf_8 : decode cX4_luckOf 8 = .ok (.iconst 0, 1) := by decide +kernel
theorem dX4_luckOf_9 : decode cX4_luckOf 9 = .ok (.istore 5, 2) := by decide +kernel
theorem dX4_luckOf_11 : decode cX4_luckOf 11 = .ok (.iconst 0, 1) := by decide +kernel
theorem dX4_luckOf_12 : decode cX4_luckOf 12 = .ok (.istore 6, 2) := by decide +kernel
theorem dX4_luckOf_14 : decode cX4_luckOf 14 = .ok (.iload 6, 2) := by decide +kernel
theorem dX4_luckOf_16 : decode cX4_luckOf 16 = .ok (.aload_n 0, 1) := by decide +kernel
theorem dX4_luckOf_17 : decode cX4_luckOf 17 = .ok (.getfield 37, 3) := by decide +kernel
theorem dX4_luckOf_20 : decode cX4_luckOf 20 = .ok (.if_icmp .ge 54, 3) := by decide +kernel
theorem dX4_luckOf_23 : decode cX4_luckOf 23 = .ok (.iload 6, 2) := by decide +kernel
theorem dX4_luckOf_25 : decode cX4_luckOf 25 = .ok (.bipush 9, 2) := by decide +kernel
theorem dX4_luckOf_27 : decode cX4_luckOf 27 = .ok (.if_icmp .ge 47, 3) := by decide +kernel
theorem dX4_luckOf_30 : decode cX4_luckOf 30 = .ok (.aload_n 0, 1) := by decide +kernel
theorem dX4_luckOf_31 : decode cX4_luckOf 31 = .ok (.iload 5, 2) := by decide +kernel
theorem dX4_luckOf_33 : decode cX4_luckOf 33 = .ok (.aload_n 0, 1) := by decide +kernel
theorem dX4_luckOf_34 : decode cX4_luckOf 34 = .ok (.getfield 11, 3) := by decide +kernel
theorem dX4_luckOf_37 : decode cX4_luckOf 37 = .ok (.iload 6, 2) := by decide +kernel
theorem dX4_luckOf_39 : decode cX4_luckOf 39 = .ok (.iaload, 1) := by decide +kernel
theorem dX4_luckOf_40 : decode cX4_luckOf 40 = .ok (.lload_n 1, 1) := by decide +kernel
theorem dX4_luckOf_41 : decode cX4_luckOf 41 = .ok (.iload_n 3, 1) := by decide +kernel
theorem dX4_luckOf_42 : decode cX4_luckOf 42 = .ok (.iload 4, 2) := by decide +kernel
theorem dX4_luckOf_44 : decode cX4_luckOf 44 = .ok (.invokevirtual 49, 3) := by decide +kernel
theorem dX4_luckOf_47 : decode cX4_luckOf 47 = .ok (.ifCond .eq 12, 3) := by decide +kernel
theorem dX4_luckOf_50 : decode cX4_luckOf 50 = .ok (.iload 4, 2) := by decide +kernel
theorem dX4_luckOf_52 : decode cX4_luckOf 52 = .ok (.iconst 1, 1) := by decide +kernel
theorem dX4_luckOf_53 : decode cX4_luckOf 53 = .ok (.iload 6, 2) := by decide +kernel
theorem dX4_luckOf_55 : decode cX4_luckOf 55 = .ok (.ishl, 1) := by decide +kernel
theorem dX4_luckOf_56 : decode cX4_luckOf 56 = .ok (.ior, 1) := by decide +kernel
theorem dX4_luckOf_57 : decode cX4_luckOf 57 = .ok (.istore 4, 2) := by decide +kernel
theorem dX4_luckOf_59 : decode cX4_luckOf 59 = .ok (.aload_n 0, 1) := by decide +kernel
theorem dX4_luckOf_60 : decode cX4_luckOf 60 = .ok (.getfield 11, 3) := by decide +kernel
theorem dX4_luckOf_63 : decode cX4_luckOf 63 = .ok (.iload 6, 2) := by decide +kernel
theorem dX4_luckOf_65 : decode cX4_luckOf 65 = .ok (.iaload, 1) := by decide +kernel
theorem dX4_luckOf_66 : decode cX4_luckOf 66 = .ok (.istore 5, 2) := by decide +kernel
theorem dX4_luckOf_68 : decode cX4_luckOf 68 = .ok (.iinc 6 1, 3) := by decide +kernel
theorem dX4_luckOf_71 : decode cX4_luckOf 71 = .ok (.goto (-57), 3) := by decide +kernel
theorem dX4_luckOf_74 : decode cX4_luckOf 74 = .ok (.iload 4, 2) := by decide +kernel
theorem dX4_luckOf_76 : decode cX4_luckOf 76 = .ok (.ireturn, 1) := by decide +kernel
theorem hd_yX4_luckOf : yX4_luckOf.cls = RX4 ∧ yX4_luckOf.cls ≠ "java/lang/invoke/MethodHandle" ∧ yX4_luckOf.cls ≠ "java/lang/invoke/VarHandle" ∧ (parseMethodDescriptor yX4_luckOf.desc).map (fun d => d.parameters.length) = some 1 := by decide +kernel
def uX4_luckOf : List Cond := List.cons (.code yX4_luckOf cX4_luckOf 7 (some .int)) (HAppend.hAppend ([.methodLink RX4 43 yX0_sumOf, .static yX0_sumOf, .initialized RX0, .fieldLink RX4 37 "LuckyTicket$Script" "laws" "I", .fieldLink RX4 11 "LuckyTicket$Script" "ends" "[I", .methodLink RX4 49 yX4_holds, .instanceMethod yX4_holds, .selects RX4 yX4_holds yX4_holds, .initialized RX4] : List Cond) (HAppend.hAppend uX0_sumOf (HAppend.hAppend uX4_holds wsX40)))
theorem iX4_luckOf_X4 : ∀ w ∈ wsX40, w ∈ uX4_luckOf := fun _ h => (List.mem_cons_of_mem _ (List.mem_append_right _ (List.mem_append_right _ (List.mem_append_right _ h))))
theorem guX4_luckOf : GU uX4_luckOf := gu_cons (gu_app (by decide +kernel) (gu_ap guX0_sumOf (gu_ap guX4_holds gws_X4)))
theorem gX4_luckOf__X0_sumOf_S43 : GoodIn uX4_luckOf (va_wsS RX4 43 yX0_sumOf uX0_sumOf) := gin_S (List.mem_of_getElem? (i := 1) rfl) (List.mem_of_getElem? (i := 2) rfl) (List.mem_of_getElem? (i := 3) rfl) (fun _ h => (List.mem_cons_of_mem _ (List.mem_append_right _ (List.mem_append_left _ h)))) guX0_sumOf
theorem gX4_luckOf__X4_holds_V49 : GoodIn uX4_luckOf (wsV RX4 49 RX4 yX4_holds uX4_holds) := gin_V (List.mem_of_getElem? (i := 6) rfl) (List.mem_of_getElem? (i := 7) rfl) (List.mem_of_getElem? (i := 8) rfl) (List.mem_of_getElem? (i := 9) rfl) (fun _ h => (List.mem_cons_of_mem _ (List.mem_append_right _ (List.mem_append_right _ (List.mem_append_left _ h))))) guX4_holds
set_option maxHeartbeats 4000000 in
set_option maxRecDepth 100000 in
theorem kX4_luckOf (l : Launch) (dC : Nat → ClassId) (dI : Nat → Nat → Nat) (sc : Nat) (sn : Int32) (sb : Int32) (si : Int32) (sw : Int32) (ss : Int32) (en : Nat) (ki : Nat) (on : Nat) (ot : Nat) (cE : ClassId) (fe : Nat → Int32) (cK : ClassId) (fk : Nat → Int32) (cO : ClassId) (fo : Nat → Int64) (cT : ClassId) (ft : Nat → Int64) (a1 : Int64) (b_sn : (0 : Int) ≤ sn.toInt ∧ sn.toInt ≤ 12) (b_sb : (0 : Int) ≤ sb.toInt ∧ sb.toInt ≤ 16) (b_si : (0 : Int) ≤ si.toInt ∧ si.toInt ≤ 1300) (b_sw : (0 : Int) ≤ sw.toInt ∧ sw.toInt ≤ 9) (b_ss : (0 : Int) ≤ ss.toInt ∧ ss.toInt ≤ 600) (ha_en : rg fe 9 0 600) : Met l yX4_luckOf uX4_luckOf ({ frames := 4, cells := 0, slots := 0, locals := 104 }) (va_Pc [.ref sc, .long a1] (pw (dC, dI) vwCl [(sc, .inr (3, [.int sn, .int sb, .int si, .int sw, .int ss, .ref en, .ref ki, .ref on, .ref ot])), (en, .inl (cE, 9, .inl fe)), (ki, .inl (cK, 600, .inl fk)), (on, .inl (cO, 600, .inr (.inl fo))), (ot, .inl (cT, 600, .inr (.inl ft)))] [(cE, .int), (cK, .int), (cO, .long), (cT, .long)])) (vp_Si (fun r => True)) 0 0 (fun _ => False) := by
  refine Met.ofW (cc := cX4_luckOf) (maxL := 7) (ret := (some .int)) pn_X4 rfl ?_
  intro p e s m args below meth c s₁ B hml hv
  obtain ⟨rfl, hP, hK, hN⟩ := hv
  have hx := B.exec
  have hb := B.bytes
  have hr := B.returns
  have hts := atoms_spec (ws := uX4_luckOf) B.pre
  have hown : s.vm.findClass RX4 = some m.cls := hown_of B.named rfl
  have hlocks := B.notSynchronized
  have hl := lv_entry ([.ref sc, .long a1]) (n := 7) (Nat.le_of_ble_eq_true rfl)
  rw [lg_entry_eq]
  generalize (lg_sl ([.ref sc, .long a1]) ++ List.replicate (7 - (lg_sl ([.ref sc, .long a1])).length) Slot.unset).toArray = ls at hl ⊢
  have hl : lv_has ls 7 [(0, .ref sc), (1, .long a1)] := hl
  refine lv_lload_n hx hb dX4_luckOf_0 rfl (lv_at hl 1 rfl) ?_
  refine vp_callSi (W.runS (As := [.long a1]) (rest := []) ⟨hx, hb, hml, hown, hts⟩ (kX0_sumOf l dC dI a1 ) (va_cwS 1 hts gX4_luckOf__X0_sumOf_S43 rfl rfl rfl hd_yX0_sumOf.2 ⟨lel 1 4 rfl, lel 23 104 rfl⟩) ⟨pn_fb, pn_use⟩ rfl rfl hl.1 rfl (lv_room (Nat.le_of_ble_eq_true rfl)) dX4_luckOf_1 ⟨lel 0 0 rfl, lel 0 0 rfl⟩) (fun r_77 h_r_77 => ?_)
  have b_r_77 := h_r_77
  have b_r_77 : (0 : Int) ≤ r_77.toInt ∧ r_77.toInt ≤ 255 := b_r_77
  refine lv_istore_n (lv' := [(3, .int r_77), (0, .ref sc), (1, .long a1)]) hx hb dX4_luckOf_4 rfl hl (by decide) rfl (fun ls hl => ?_)
  refine lv_iconst (v := 0) hx hb dX4_luckOf_5 (by decide) ?_
  refine lv_istore (lv' := [(4, .int 0), (3, .int r_77), (0, .ref sc), (1, .long a1)]) hx hb dX4_luckOf_6 hl (by decide) rfl (fun ls hl => ?_)
  refine lv_iconst (v := 0) hx hb dX4_luckOf_8 (by decide) ?_
  refine lv_istore (lv' := [(5, .int 0), (4, .int 0), (3, .int r_77), (0, .ref sc), (1, .long a1)]) hx hb dX4_luckOf_9 hl (by decide) rfl (fun ls hl => ?_)
  refine lv_iconst (v := 0) hx hb dX4_luckOf_11 (by decide) ?_
  refine lv_istore (lv' := [(6, .int 0), (5, .int 0), (4, .int 0), (3, .int r_77), (0, .ref sc), (1, .long a1)]) hx hb dX4_luckOf_12 hl (by decide) rfl (fun ls hl => ?_)
  refine loopP (σ := Int32 × Int32 × Int32) (fun v => (9 - v.1.toInt).toNat) (fun v ls => ((0 : Int) ≤ v.1.toInt ∧ v.1.toInt ≤ 9) ∧ ((0 : Int) ≤ v.2.1.toInt ∧ v.2.1.toInt ≤ 600) ∧ lv_has ls 7 [(6, .int v.1), (5, .int v.2.1), (4, .int v.2.2), (3, .int r_77), (0, .ref sc), (1, .long a1)]) (fun v ls hI ih_14_140 => ?_) ((0 : Int32), (0 : Int32), (0 : Int32)) ⟨(show (0 : Int) ≤ (0 : Int32).toInt ∧ (0 : Int32).toInt ≤ 9 from (rg_w (by decide : (0 : Int) ≤ (0 : Int32).toInt ∧ (0 : Int32).toInt ≤ 0) (by decide) (by decide))), (show (0 : Int) ≤ (0 : Int32).toInt ∧ (0 : Int32).toInt ≤ 600 from (rg_w (by decide : (0 : Int) ≤ (0 : Int32).toInt ∧ (0 : Int32).toInt ≤ 0) (by decide) (by decide))), lv_sub hl [0, 1, 2, 3, 4, 5] rfl⟩
  obtain ⟨y_90, y_91, y_92⟩ := v
  obtain ⟨b_y_90, b_y_91, hl⟩ := hI
  have b_y_90 : (0 : Int) ≤ y_90.toInt ∧ y_90.toInt ≤ 9 := b_y_90
  have b_y_91 : (0 : Int) ≤ y_91.toInt ∧ y_91.toInt ≤ 600 := b_y_91
  have hl : lv_has ls 7 [(6, .int y_90), (5, .int y_91), (4, .int y_92), (3, .int r_77), (0, .ref sc), (1, .long a1)] := hl
  refine lv_iload hx hb dX4_luckOf_14 (lv_at hl 0 rfl) ?_
  refine lv_aload_n hx hb dX4_luckOf_16 rfl (lv_at hl 4 rfl) ?_
  refine va_get (D := (dC, dI)) (ci := 3) (v := .int sw) (C := RX4) (T := TX4) (N := 9) hx hb hts iX4_luckOf_X4 hown hK hP 0 rfl rfl 3 (by decide) (hts (.fieldLink RX4 37 "LuckyTicket$Script" "laws" "I") (List.mem_of_getElem? (i := 4) rfl)) (fun _ h9 => h9) rfl dX4_luckOf_17 ?_
  refine lv_icmp_ge (tgt := 74) hx hb dX4_luckOf_20 (by decide) (fun c_141 => ?_) (fun c_141 => ?_)
  ·
    have n_c_141 : (sw.toInt : Int) ≤ y_90.toInt := c_ge rfl rfl c_141
    refine lv_iload hx hb dX4_luckOf_74 (lv_at hl 2 rfl) ?_
    exact W.iret (v := y_92) hx hb hr (fun t ht hW => ⟨y_92, rfl, trivial, ht⟩) t_nil dX4_luckOf_76
  ·
    have n_c_141 : (y_90.toInt : Int) < sw.toInt := c_nge rfl rfl c_141
    have b_y_90 : (0 : Int) ≤ y_90.toInt ∧ y_90.toInt ≤ 8 := r_lt1 b_y_90 b_sw n_c_141 (by decide)
    have b_sw : (1 : Int) ≤ sw.toInt ∧ sw.toInt ≤ 9 := r_lt2 b_y_90 b_sw n_c_141 (by decide)
    refine lv_iload hx hb dX4_luckOf_23 (lv_at hl 0 rfl) ?_
    refine lv_bipush (v := 9) hx hb dX4_luckOf_25 (by decide) ?_
    refine lv_icmp_ge (tgt := 74) hx hb dX4_luckOf_27 (by decide) (fun c_142 => absurd (show (9 : Int) ≤ y_90.toInt from c_ge rfl (by decide) c_142) (by have q1 := b_y_90; have q2 := (by decide : (9 : Int) ≤ (9 : Int32).toInt ∧ (9 : Int32).toInt ≤ 9); omega)) (fun c_142 => ?_)
    refine lv_aload_n hx hb dX4_luckOf_30 rfl (lv_at hl 4 rfl) ?_
    refine lv_iload hx hb dX4_luckOf_31 (lv_at hl 1 rfl) ?_
    refine lv_aload_n hx hb dX4_luckOf_33 rfl (lv_at hl 4 rfl) ?_
    refine va_get (D := (dC, dI)) (ci := 3) (v := .ref en) (C := RX4) (T := TX4) (N := 9) hx hb hts iX4_luckOf_X4 hown hK hP 0 rfl rfl 5 (by decide) (hts (.fieldLink RX4 11 "LuckyTicket$Script" "ends" "[I") (List.mem_of_getElem? (i := 5) rfl)) (fun _ h9 => h9) rfl dX4_luckOf_34 ?_
    refine lv_iload hx hb dX4_luckOf_37 (lv_at hl 0 rfl) ?_
    refine va_iald hx hb hK hP 1 0 rfl rfl (vp_in_b b_y_90 (by decide) (by decide)) dX4_luckOf_39 ?_
    refine lv_topi (fun z_143 e_z_143 => ?_)
    have b_z_143 : (0 : Int) ≤ z_143.toInt ∧ z_143.toInt ≤ 600 := rg_at ha_en (vp_in_b b_y_90 (by decide) (by decide)) e_z_143
    refine lv_lload_n hx hb dX4_luckOf_40 rfl (lv_at hl 5 rfl) ?_
    refine lv_iload_n hx hb dX4_luckOf_41 rfl (lv_at hl 3 rfl) ?_
    refine lv_iload hx hb dX4_luckOf_42 (lv_at hl 2 rfl) ?_
    refine vp_callSi (W.runV (As := [.int y_91, .int z_143, .long a1, .int r_77, .int y_92]) (rest := []) ⟨hx, hb, hml, hown, hts⟩ (kX4_holds l dC dI sc sn sb si sw ss en ki on ot cK fk cO fo cT ft y_91 z_143 a1 r_77 y_92 b_sn b_sb b_si (rg_w b_sw (by decide) (by decide)) b_ss b_r_77 b_y_91 b_z_143) (cwV 5 hts gX4_luckOf__X4_holds_V49 rfl rfl rfl hd_yX4_holds ⟨lel 4 4 rfl, lel 104 104 rfl⟩) ⟨pw_fb, rcv_X4 hK hP (q0 := 0) rfl, (pw_use hP hK hN [0, 2, 3, 4] rfl [1, 2, 3] rfl)⟩ rfl rfl hl.1 rfl (lv_room (Nat.le_of_ble_eq_true rfl)) dX4_luckOf_44 ⟨lel 0 0 rfl, lel 0 0 rfl⟩) (fun r_144 h_r_144 => ?_)
    have b_r_144 := h_r_144
    have b_r_144 : (0 : Int) ≤ r_144.toInt ∧ r_144.toInt ≤ 1 := b_r_144
    refine cutP (σ := Int32) (pc2 := 59) (st2 := fun v => []) (cells2 := 0) (slots2 := 0) (fun v ls => lv_has ls 7 [(6, .int y_90), (5, .int y_91), (4, .int v), (3, .int r_77), (0, .ref sc), (1, .long a1)]) (fun v ls hI => ?_) (fun hj_59_148 => ?_)
    ·
      obtain ⟨y_148, rfl⟩ : ∃ z, z = v := ⟨_, rfl⟩
      have hl := hI
      have hl : lv_has ls 7 [(6, .int y_90), (5, .int y_91), (4, .int y_148), (3, .int r_77), (0, .ref sc), (1, .long a1)] := hl
      refine lv_aload_n hx hb dX4_luckOf_59 rfl (lv_at hl 4 rfl) ?_
      refine va_get (D := (dC, dI)) (ci := 3) (v := .ref en) (C := RX4) (T := TX4) (N := 9) hx hb hts iX4_luckOf_X4 hown hK hP 0 rfl rfl 5 (by decide) (hts (.fieldLink RX4 11 "LuckyTicket$Script" "ends" "[I") (List.mem_of_getElem? (i := 5) rfl)) (fun _ h9 => h9) rfl dX4_luckOf_60 ?_
      refine lv_iload hx hb dX4_luckOf_63 (lv_at hl 0 rfl) ?_
      refine va_iald hx hb hK hP 1 0 rfl rfl (vp_in_b b_y_90 (by decide) (by decide)) dX4_luckOf_65 ?_
      refine lv_topi (fun z_149 e_z_149 => ?_)
      have b_z_149 : (0 : Int) ≤ z_149.toInt ∧ z_149.toInt ≤ 600 := rg_at ha_en (vp_in_b b_y_90 (by decide) (by decide)) e_z_149
      refine lv_istore (lv' := [(5, .int z_149), (6, .int y_90), (4, .int y_148), (3, .int r_77), (0, .ref sc), (1, .long a1)]) hx hb dX4_luckOf_66 hl (by decide) rfl (fun ls hl => ?_)
      obtain ⟨z_150, e_z_150⟩ : ∃ y : Int32, y = y_90 + 1 := ⟨_, rfl⟩
      refine lv_iinc (v := z_150) (lv' := [(6, .int z_150), (5, .int z_149), (4, .int y_148), (3, .int r_77), (0, .ref sc), (1, .long a1)]) hx hb dX4_luckOf_68 hl (k := 1) rfl (by rw [e_z_150]; rfl) (by decide) rfl (fun ls hl => ?_)
      obtain ⟨q_z_150, b_z_150⟩ := ti_add (lo := 1) (hi := 9) e_z_150 rfl (by decide : (1 : Int32).toInt = 1) b_y_90 (by decide : (1 : Int) ≤ (1 : Int32).toInt ∧ (1 : Int32).toInt ≤ 1) (by decide)
      refine lv_goto (tgt := 14) hx hb dX4_luckOf_71 (by decide) ?_
      exact ih_14_140 (z_150, z_149, y_148) _ ⟨(show (0 : Int) ≤ z_150.toInt ∧ z_150.toInt ≤ 9 from (rg_w b_z_150 (by decide) (by decide))), (show (0 : Int) ≤ z_149.toInt ∧ z_149.toInt ≤ 600 from b_z_149), lv_sub hl [0, 1, 2, 3, 4, 5] rfl⟩ (show (9 - z_150.toInt).toNat < (9 - y_90.toInt).toNat by omega)
    ·
      refine lv_if_eq (tgt := 59) hx hb dX4_luckOf_47 (by decide) (fun c_145 => ?_) (fun c_145 => ?_)
      ·
        have n_c_145 : (r_144.toInt : Int) = 0 := c_eq rfl (by decide) c_145
        have b_r_144 : (0 : Int) ≤ r_144.toInt ∧ r_144.toInt ≤ 0 := r_eq1 b_r_144 (by decide : (0 : Int) ≤ (0 : Int32).toInt ∧ (0 : Int32).toInt ≤ 0) n_c_145 (by decide)
        exact hj_59_148 y_92 _ (lv_sub hl [0, 1, 2, 3, 4, 5] rfl)
      ·
        have n_c_145 : (r_144.toInt : Int) ≠ 0 := c_ne rfl (by decide) c_145
        have b_r_144 : (1 : Int) ≤ r_144.toInt ∧ r_144.toInt ≤ 1 := r_ne1 b_r_144 (by decide : (0 : Int) ≤ (0 : Int32).toInt ∧ (0 : Int32).toInt ≤ 0) n_c_145 (by decide)
        refine lv_iload hx hb dX4_luckOf_50 (lv_at hl 2 rfl) ?_
        refine lv_iconst (v := 1) hx hb dX4_luckOf_52 (by decide) ?_
        refine lv_iload hx hb dX4_luckOf_53 (lv_at hl 0 rfl) ?_
        refine lv_ishl hx hb dX4_luckOf_55 ?_
        refine lv_topi (fun z_151 e_z_151 => ?_)
        refine lv_ior hx hb dX4_luckOf_56 ?_
        refine lv_topi (fun z_152 e_z_152 => ?_)
        refine lv_istore (lv' := [(4, .int z_152), (6, .int y_90), (5, .int y_91), (3, .int r_77), (0, .ref sc), (1, .long a1)]) hx hb dX4_luckOf_57 hl (by decide) rfl (fun ls hl => ?_)
        exact hj_59_148 z_152 _ (lv_sub hl [1, 2, 0, 3, 4, 5] rfl)
