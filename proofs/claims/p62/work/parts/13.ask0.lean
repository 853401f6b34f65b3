theorem dX9_hasBoth_0 : decode cX9_hasBoth 0 = .ok (.aload_n 0, 1) := by decide +kernel
theorem dX9_hasBoth_1 : decode cX9_hasBoth 1 = .ok (.getfield 35, 3) := by decide +kernel
theorem dX9_hasBoth_4 : decode cX9_hasBoth 4 = .ok (.iload_n 1, 1) := by decide +kernel
theorem dX9_hasBoth_5 : decode cX9_hasBoth 5 = .ok (.invokevirtual 149, 3) := by decide +kernel
theorem dX9_hasBoth_8 : decode cX9_hasBoth 8 = .ok (.ifCond .eq 18, 3) := by decide +kernel
theorem dX9_hasBoth_11 : decode cX9_hasBoth 11 = .ok (.aload_n 0, 1) := by decide +kernel
theorem dX9_hasBoth_12 : decode cX9_hasBoth 12 = .ok (.getfield 35, 3) := by decide +kernel
theorem dX9_hasBoth_15 : decode cX9_hasBoth 15 = .ok (.iload_n 2, 1) := by decide +kernel
theorem dX9_hasBoth_16 : decode cX9_hasBoth 16 = .ok (.invokevirtual 100, 3) := by decide +kernel
theorem dX9_hasBoth_19 : decode cX9_hasBoth 19 = .ok (.ifCond .eq 7, 3) := by decide +kernel
theorem dX9_hasBoth_22 : decode cX9_hasBoth 22 = .ok (.iconst 1, 1) := by decide +kernel
theorem dX9_hasBoth_23 : decode cX9_hasBoth 23 = .ok (.goto 4, 3) := by decide +kernel
theorem dX9_hasBoth_26 : decode cX9_hasBoth 26 = .ok (.iconst 0, 1) := by decide +kernel
theorem dX9_hasBoth_27 : decode cX9_hasBoth 27 = .ok (.ireturn, 1) := by decide +kernel
theorem hd_yX9_hasBoth : yX9_hasBoth.cls = RX9 ∧ yX9_hasBoth.cls ≠ "java/lang/invoke/MethodHandle" ∧ yX9_hasBoth.cls ≠ "java/lang/invoke/VarHandle" ∧ (parseMethodDescriptor yX9_hasBoth.desc).map (fun d => d.parameters.length) = some 2 := by decide +kernel
def uX9_hasBoth : List Cond := List.cons (.code yX9_hasBoth cX9_hasBoth 3 (some .boolean)) (HAppend.hAppend ([.fieldLink RX9 35 "LuckyTicket" "current" "LLuckyTicket$Roll;", .methodLink RX9 149 yX2_hasLaw, .instanceMethod yX2_hasLaw, .selects RX2 yX2_hasLaw yX2_hasLaw, .initialized RX2, .methodLink RX9 100 yX2_hasTicket, .instanceMethod yX2_hasTicket, .selects RX2 yX2_hasTicket yX2_hasTicket] : List Cond) (HAppend.hAppend uX2_hasLaw (HAppend.hAppend uX2_hasTicket wsX90)))
theorem iX9_hasBoth_X9 : ∀ w ∈ wsX90, w ∈ uX9_hasBoth := fun _ h => (List.mem_cons_of_mem _ (List.mem_append_right _ (List.mem_append_right _ (List.mem_append_right _ h))))
theorem guX9_hasBoth : GU uX9_hasBoth := gu_cons (gu_app (by decide +kernel) (gu_ap guX2_hasLaw (gu_ap guX2_hasTicket gws_X9)))
theorem gX9_hasBoth__X2_hasLaw_V149 : GoodIn uX9_hasBoth (wsV RX9 149 RX2 yX2_hasLaw uX2_hasLaw) := gin_V (List.mem_of_getElem? (i := 2) rfl) (List.mem_of_getElem? (i := 3) rfl) (List.mem_of_getElem? (i := 4) rfl) (List.mem_of_getElem? (i := 5) rfl) (fun _ h => (List.mem_cons_of_mem _ (List.mem_append_right _ (List.mem_append_left _ h)))) guX2_hasLaw
theorem gX9_hasBoth__X2_hasTicket_V100 : GoodIn uX9_hasBoth (wsV RX9 100 RX2 yX2_hasTicket uX2_hasTicket) := gin_V (List.mem_of_getElem? (i := 6) rfl) (List.mem_of_getElem? (i := 7) rfl) (List.mem_of_getElem? (i := 8) rfl) (List.mem_of_getElem? (i := 5) rfl) (fun _ h => (List.mem_cons_of_mem _ (List.mem_append_right _ (List.mem_append_right _ (List.mem_append_left _ h))))) guX2_hasTicket
set_option maxHeartbeats 4000000 in
set_option maxRecDepth 100000 in
theorem kX9_hasBoth (l : Launch) (dC : Nat → ClassId) (dI : Nat → Nat → Nat) (h0 : Nat) (tp : Nat) (sc : Nat) (rd : Nat) (cu : Nat) (im : Nat) (ig : Nat) (sl : Nat) (se : Nat) (sm : Nat) (fc : Nat) (ln : Int32) (bs : Int32) (tk : Int32) (lw : Int32) (li : Int32) (fa : Nat) (lu : Nat) (a1 : Int32) (a2 : Int32) (b_ln : (0 : Int) ≤ ln.toInt ∧ ln.toInt ≤ 12) (b_bs : (0 : Int) ≤ bs.toInt ∧ bs.toInt ≤ 16) (b_tk : (0 : Int) ≤ tk.toInt ∧ tk.toInt ≤ 20000) (b_lw : (0 : Int) ≤ lw.toInt ∧ lw.toInt ≤ 9) : Met l yX9_hasBoth uX9_hasBoth ({ frames := 1, cells := 0, slots := 0, locals := 21 }) (va_Pc [.ref h0, .int a1, .int a2] (pw (dC, dI) vwCl [(h0, .inr (7, [.ref tp, .ref sc, .ref rd, .ref cu, .ref im, .ref ig, .ref sl, .ref se, .ref sm, .ref fc])), (cu, .inr (1, [.int ln, .int bs, .int tk, .int lw, .int li, .ref fa, .ref lu]))] [])) (vp_Si (fun r => ((0 : Int) ≤ r.toInt ∧ r.toInt ≤ 1) ∧ (r ≠ 0 → ((0 : Int) ≤ a1.toInt ∧ a1.toInt ≤ 8) ∧ ((0 : Int) ≤ a2.toInt ∧ a2.toInt ≤ 19999) ∧ (a2.toInt < tk.toInt ∧ a1.toInt < lw.toInt)))) 0 0 (fun _ => False) := by
  refine Met.ofW (cc := cX9_hasBoth) (maxL := 3) (ret := (some .boolean)) pn_X9 rfl ?_
  intro p e s m args below meth c s₁ B hml hv
  obtain ⟨rfl, hP, hK, hN⟩ := hv
  have hx := B.exec
  have hb := B.bytes
  have hr := B.returns
  have hts := atoms_spec (ws := uX9_hasBoth) B.pre
  have hown : s.vm.findClass RX9 = some m.cls := hown_of B.named rfl
  have hlocks := B.notSynchronized
  have hl := lv_entry ([.ref h0, .int a1, .int a2]) (n := 3) (Nat.le_of_ble_eq_true rfl)
  rw [lg_entry_eq]
  generalize (lg_sl ([.ref h0, .int a1, .int a2]) ++ List.replicate (3 - (lg_sl ([.ref h0, .int a1, .int a2])).length) Slot.unset).toArray = ls at hl ⊢
  have hl : lv_has ls 3 [(0, .ref h0), (1, .int a1), (2, .int a2)] := hl
  refine lv_aload_n hx hb dX9_hasBoth_0 rfl (lv_at hl 0 rfl) ?_
  refine va_get (D := (dC, dI)) (ci := 7) (v := .ref cu) (C := RX9) (T := TX9) (N := 10) hx hb hts iX9_hasBoth_X9 hown hK hP 0 rfl rfl 3 (by decide) (hts (.fieldLink RX9 35 "LuckyTicket" "current" "LLuckyTicket$Roll;") (List.mem_of_getElem? (i := 1) rfl)) (fun _ h9 => h9) rfl dX9_hasBoth_1 ?_
  refine lv_iload_n hx hb dX9_hasBoth_4 rfl (lv_at hl 1 rfl) ?_
  refine vp_callSi (W.runV (As := [.int a1]) (rest := []) ⟨hx, hb, hml, hown, hts⟩ (kX2_hasLaw l dC dI cu ln bs tk lw li fa lu a1 b_ln b_bs b_tk b_lw) (cwV 1 hts gX9_hasBoth__X2_hasLaw_V149 rfl rfl rfl hd_yX2_hasLaw ⟨lel 1 1 rfl, lel 21 21 rfl⟩) ⟨pw_fb, rcv_X2 hK hP (q0 := 1) rfl, (pw_use hP hK hN [1] rfl [] rfl)⟩ rfl rfl hl.1 rfl (lv_room (Nat.le_of_ble_eq_true rfl)) dX9_hasBoth_5 ⟨lel 0 0 rfl, lel 0 0 rfl⟩) (fun r_7 h_r_7 => ?_)
  obtain ⟨b_r_7, nz_r_7⟩ := h_r_7
  have b_r_7 : (0 : Int) ≤ r_7.toInt ∧ r_7.toInt ≤ 1 := b_r_7
  refine lv_if_eq (tgt := 26) hx hb dX9_hasBoth_8 (by decide) (fun c_8 => ?_) (fun c_8 => ?_)
  ·
    have n_c_8 : (r_7.toInt : Int) = 0 := c_eq rfl (by decide) c_8
    have b_r_7 : (0 : Int) ≤ r_7.toInt ∧ r_7.toInt ≤ 0 := r_eq1 b_r_7 (by decide : (0 : Int) ≤ (0 : Int32).toInt ∧ (0 : Int32).toInt ≤ 0) n_c_8 (by decide)
    refine lv_iconst (v := 0) hx hb dX9_hasBoth_26 (by decide) ?_
    exact W.zret (v := 0) hx hb hr rfl (fun t ht hW => ⟨0, rfl, ⟨(rg_w (by decide : (0 : Int) ≤ (0 : Int32).toInt ∧ (0 : Int32).toInt ≤ 0) (by decide) (by decide)), (fun h9 => absurd rfl h9)⟩, ht⟩) t_nil dX9_hasBoth_27
  ·
    have n_c_8 : (r_7.toInt : Int) ≠ 0 := c_ne rfl (by decide) c_8
    have b_r_7 : (1 : Int) ≤ r_7.toInt ∧ r_7.toInt ≤ 1 := r_ne1 b_r_7 (by decide : (0 : Int) ≤ (0 : Int32).toInt ∧ (0 : Int32).toInt ≤ 0) n_c_8 (by decide)
    obtain ⟨b_a1, g_9⟩ := nz_r_7 c_8
    refine lv_aload_n hx hb dX9_hasBoth_11 rfl (lv_at hl 0 rfl) ?_
    refine va_get (D := (dC, dI)) (ci := 7) (v := .ref cu) (C := RX9) (T := TX9) (N := 10) hx hb hts iX9_hasBoth_X9 hown hK hP 0 rfl rfl 3 (by decide) (hts (.fieldLink RX9 35 "LuckyTicket" "current" "LLuckyTicket$Roll;") (List.mem_of_getElem? (i := 1) rfl)) (fun _ h9 => h9) rfl dX9_hasBoth_12 ?_
    refine lv_iload_n hx hb dX9_hasBoth_15 rfl (lv_at hl 2 rfl) ?_
    refine vp_callSi (W.runV (As := [.int a2]) (rest := []) ⟨hx, hb, hml, hown, hts⟩ (kX2_hasTicket l dC dI cu ln bs tk lw li fa lu a2 b_ln b_bs b_tk b_lw) (cwV 1 hts gX9_hasBoth__X2_hasTicket_V100 rfl rfl rfl hd_yX2_hasTicket ⟨lel 1 1 rfl, lel 21 21 rfl⟩) ⟨pw_fb, rcv_X2 hK hP (q0 := 1) rfl, (pw_use hP hK hN [1] rfl [] rfl)⟩ rfl rfl hl.1 rfl (lv_room (Nat.le_of_ble_eq_true rfl)) dX9_hasBoth_16 ⟨lel 0 0 rfl, lel 0 0 rfl⟩) (fun r_10 h_r_10 => ?_)
    obtain ⟨b_r_10, nz_r_10⟩ := h_r_10
    have b_r_10 : (0 : Int) ≤ r_10.toInt ∧ r_10.toInt ≤ 1 := b_r_10
    refine lv_if_eq (tgt := 26) hx hb dX9_hasBoth_19 (by decide) (fun c_11 => ?_) (fun c_11 => ?_)
    ·
      have n_c_11 : (r_10.toInt : Int) = 0 := c_eq rfl (by decide) c_11
      have b_r_10 : (0 : Int) ≤ r_10.toInt ∧ r_10.toInt ≤ 0 := r_eq1 b_r_10 (by decide : (0 : Int) ≤ (0 : Int32).toInt ∧ (0 : Int32).toInt ≤ 0) n_c_11 (by decide)
      refine lv_iconst (v := 0) hx hb dX9_hasBoth_26 (by decide) ?_
      exact W.zret (v := 0) hx hb hr rfl (fun t ht hW => ⟨0, rfl, ⟨(rg_w (by decide : (0 : Int) ≤ (0 : Int32).toInt ∧ (0 : Int32).toInt ≤ 0) (by decide) (by decide)), (fun h9 => absurd rfl h9)⟩, ht⟩) t_nil dX9_hasBoth_27
    ·
      have n_c_11 : (r_10.toInt : Int) ≠ 0 := c_ne rfl (by decide) c_11
      have b_r_10 : (1 : Int) ≤ r_10.toInt ∧ r_10.toInt ≤ 1 := r_ne1 b_r_10 (by decide : (0 : Int) ≤ (0 : Int32).toInt ∧ (0 : Int32).toInt ≤ 0) n_c_11 (by decide)
      obtain ⟨b_a2, g_12⟩ := nz_r_10 c_11
      refine lv_iconst (v := 1) hx hb dX9_hasBoth_22 (by decide) ?_
      refine lv_goto (tgt := 27) hx hb dX9_hasBoth_23 (by decide) ?_
      exact W.zret (v := 1) hx hb hr rfl (fun t ht hW => ⟨1, rfl, ⟨(rg_w (by decide : (1 : Int) ≤ (1 : Int32).toInt ∧ (1 : Int32).toInt ≤ 1) (by decide) (by decide)), (fun _ => ⟨⟨by omega, by omega⟩, ⟨by omega, by omega⟩, (by omega)⟩)⟩, ht⟩) t_nil dX9_hasBoth_27
theorem dX9_figure_0 : decode cX9_figure 0 = .ok (.aload_n 0, 1) := by decide +kernel
theorem dX9_figure_1 : decode cX9_figure 1 = .ok (.getfield 35, 3) := by decide +kernel
theorem dX9_figure_4 : decode cX9_figure 4 = .ok (.iload_n 1, 1) := by decide +kernel
theorem dX9_figure_5 : decode cX9_figure 5 = .ok (.invokevirtual 100, 3) := by decide +kernel
theorem dX9_figure_8 : decode cX9_figure 8 = .ok (.ifCond .eq 14, 3) := by decide +kernel
theorem dX9_figure_11 : decode cX9_figure 11 = .ok (.aload_n 0, 1) := by decide +kernel
theorem dX9_figure_12 : decode cX9_figure 12 = .ok (.getfield 35, 3) := by decide +kernel
theorem dX9_figure_15 : decode cX9_figure 15 = .ok (.iload_n 2, 1) := by decide +kernel
theorem dX9_figure_16 : decode cX9_figure 16 = .ok (.invokevirtual 103, 3) := by decide +kernel
theorem dX9_figure_19 : decode cX9_figure 19 = .ok (.ifCond .ne 6, 3) := by decide +kernel
theorem dX9_figure_22 : decode cX9_figure 22 = .ok (.bipush (-2), 2) := by decide +kernel
theorem dX9_figure_24 : decode cX9_figure 24 = .ok (.ireturn, 1) := by decide +kernel
theorem dX9_figure_25 : decode cX9_figure 25 = .ok (.aload_n 0, 1) := by decide +kernel
theorem dX9_figure_26 : decode cX9_figure 26 = .ok (.getfield 35, 3) := by decide +kernel
theorem dX9_figure_29 : decode cX9_figure 29 = .ok (.iload_n 1, 1) := by decide +kernel
theorem dX9_figure_30 : decode cX9_figure 30 = .ok (.invokevirtual 106, 3) := by decide +kernel
theorem dX9_figure_33 : decode cX9_figure 33 = .ok (.aload_n 0, 1) := by decide +kernel
theorem dX9_figure_34 : decode cX9_figure 34 = .ok (.getfield 35, 3) := by decide +kernel
theorem dX9_figure_37 : decode cX9_figure 37 = .ok (.getfield 110, 3) := by decide +kernel
theorem dX9_figure_40 : decode cX9_figure 40 = .ok (.iload_n 2, 1) := by decide +kernel
theorem dX9_figure_41 : decode cX9_figure 41 = .ok (.invokestatic 113, 3) := by decide +kernel
theorem dX9_figure_44 : decode cX9_figure 44 = .ok (.ireturn, 1) := by decide +kernel
theorem hd_yX9_figure : yX9_figure.cls = RX9 ∧ yX9_figure.cls ≠ "java/lang/invoke/MethodHandle" ∧ yX9_figure.cls ≠ "java/lang/invoke/VarHandle" ∧ (parseMethodDescriptor yX9_figure.desc).map (fun d => d.parameters.length) = some 2 := by decide +kernel
def uX9_figure : List Cond := List.cons (.code yX9_figure cX9_figure 3 (some .int)) (HAppend.hAppend ([.fieldLink RX9 35 "LuckyTicket" "current" "LLuckyTicket$Roll;", .methodLink RX9 100 yX2_hasTicket, .instanceMethod yX2_hasTicket, .selects RX2 yX2_hasTicket yX2_hasTicket, .initialized RX2, .methodLink RX9 103 yX2_hasPlace, .instanceMethod yX2_hasPlace, .selects RX2 yX2_hasPlace yX2_hasPlace, .methodLink RX9 106 yX2_faceOf, .instanceMethod yX2_faceOf, .selects RX2 yX2_faceOf yX2_faceOf, .methodLink RX9 113 yX0_figureAt, .static yX0_figureAt, .initialized RX0] : List Cond) (HAppend.hAppend uX2_hasTicket (HAppend.hAppend uX2_hasPlace (HAppend.hAppend uX2_faceOf (HAppend.hAppend uX0_figureAt (HAppend.hAppend wsX90 wsX20))))))
theorem iX9_figure_X9 : ∀ w ∈ wsX90, w ∈ uX9_figure := fun _ h => (List.mem_cons_of_mem _ (List.mem_append_right _ (List.mem_append_right _ (List.mem_append_right _ (List.mem_append_right _ (List.mem_append_right _ (List.mem_append_left _ h)))))))
theorem iX9_figure_X2 : ∀ w ∈ wsX20, w ∈ uX9_figure := fun _ h => (List.mem_cons_of_mem _ (List.mem_append_right _ (List.mem_append_right _ (List.mem_append_right _ (List.mem_append_right _ (List.mem_append_right _ (List.mem_append_right _ h)))))))
theorem guX9_figure : GU uX9_figure := gu_cons (gu_app (by decide +kernel) (gu_ap guX2_hasTicket (gu_ap guX2_hasPlace (gu_ap guX2_faceOf (gu_ap guX0_figureAt (gu_ap gws_X9 gws_X2))))))
theorem gX9_figure__X2_hasTicket_V100 : GoodIn uX9_figure (wsV RX9 100 RX2 yX2_hasTicket uX2_hasTicket) := gin_V (List.mem_of_getElem? (i := 2) rfl) (List.mem_of_getElem? (i := 3) rfl) (List.mem_of_getElem? (i := 4) rfl) (List.mem_of_getElem? (i := 5) rfl) (fun _ h => (List.mem_cons_of_mem _ (List.mem_append_right _ (List.mem_append_left _ h)))) guX2_hasTicket
theorem gX9_figure__X2_hasPlace_V103 : GoodIn uX9_figure (wsV RX9 103 RX2 yX2_hasPlace uX2_hasPlace) := gin_V (List.mem_of_getElem? (i := 6) rfl) (List.mem_of_getElem? (i := 7) rfl) (List.mem_of_getElem? (i := 8) rfl) (List.mem_of_getElem? (i := 5) rfl) (fun _ h => (List.mem_cons_of_mem _ (List.mem_append_right _ (List.mem_append_right _ (List.mem_append_left _ h))))) guX2_hasPlace
theorem gX9_figure__X2_faceOf_V106 : GoodIn uX9_figure (wsV RX9 106 RX2 yX2_faceOf uX2_faceOf) := gin_V (List.mem_of_getElem? (i := 9) rfl) (List.mem_of_getElem? (i := 10) rfl) (List.mem_of_getElem? (i := 11) rfl) (List.mem_of_getElem? (i := 5) rfl) (fun _ h => (List.mem_cons_of_mem _ (List.mem_append_right _ (List.mem_append_right _ (List.mem_append_right _ (List.mem_append_left _ h)))))) guX2_faceOf
theorem gX9_figure__X0_figureAt_S113 : GoodIn uX9_figure (va_wsS RX9 113 yX0_figureAt uX0_figureAt) := gin_S (List.mem_of_getElem? (i := 12) rfl) (List.mem_of_getElem? (i := 13) rfl) (List.mem_of_getElem? (i := 14) rfl) (fun _ h => (List.mem_cons_of_mem _ (List.mem_append_right _ (List.mem_append_right _ (List.mem_append_right _ (List.mem_append_right _ (List.mem_append_left _ h))))))) guX0_figureAt
set_option maxHeartbeats 4000000 in
set_option maxRecDepth 100000 in
theorem kX9_figure (l : Launch) (dC : Nat → ClassId) (dI : Nat → Nat → Nat) (h0 : Nat) (tp : Nat) (sc : Nat) (rd : Nat) (cu : Nat) (im : Nat) (ig : Nat) (sl : Nat) (se : Nat) (sm : Nat) (fc : Nat) (ln : Int32) (bs : Int32) (tk : Int32) (lw : Int32) (li : Int32) (fa : Nat) (lu : Nat) (cF : ClassId) (nf : Nat) (ff : Nat → Int64) (a1 : Int32) (a2 : Int32) (b_ln : (0 : Int) ≤ ln.toInt ∧ ln.toInt ≤ 12) (b_bs : (0 : Int) ≤ bs.toInt ∧ bs.toInt ≤ 16) (b_tk : (0 : Int) ≤ tk.toInt ∧ tk.toInt ≤ 20000) (b_lw : (0 : Int) ≤ lw.toInt ∧ lw.toInt ≤ 9) (hf1 : tk.toInt ≤ (nf : Int)) : Met l yX9_figure uX9_figure ({ frames := 2, cells := 0, slots := 0, locals := 42 }) (va_Pc [.ref h0, .int a1, .int a2] (pw (dC, dI) vwCl [(h0, .inr (7, [.ref tp, .ref sc, .ref rd, .ref cu, .ref im, .ref ig, .ref sl, .ref se, .ref sm, .ref fc])), (cu, .inr (1, [.int ln, .int bs, .int tk, .int lw, .int li, .ref fa, .ref lu])), (fa, .inl (cF, nf, .inr (.inl ff)))] [(cF, .long)])) (vp_Si (fun r => ((-2 : Int) ≤ r.toInt ∧ r.toInt ≤ 15))) 0 0 (fun _ => False) := by
  refine Met.ofW (cc := cX9_figure) (maxL := 3) (ret := (some .int)) pn_X9 rfl ?_
  intro p e s m args below meth c s₁ B hml hv
  obtain ⟨rfl, hP, hK, hN⟩ := hv
  have hx := B.exec
  have hb := B.bytes
  have hr := B.returns
  have hts := atoms_spec (ws := uX9_figure) B.pre
  have hown : s.vm.findClass RX9 = some m.cls := hown_of B.named rfl
  have hlocks := B.notSynchronized
  have hl := lv_entry ([.ref h0, .int a1, .int a2]) (n := 3) (Nat.le_of_ble_eq_true rfl)
  rw [lg_entry_eq]
  generalize (lg_sl ([.ref h0, .int a1, .int a2]) ++ List.replicate (3 - (lg_sl ([.ref h0, .int a1, .int a2])).length) Slot.unset).toArray = ls at hl ⊢
  have hl : lv_has ls 3 [(0, .ref h0), (1, .int a1), (2, .int a2)] := hl
  refine lv_aload_n hx hb dX9_figure_0 rfl (lv_at hl 0 rfl) ?_
  refine va_get (D := (dC, dI)) (ci := 7) (v := .ref cu) (C := RX9) (T := TX9) (N := 10) hx hb hts iX9_figure_X9 hown hK hP 0 rfl rfl 3 (by decide) (hts (.fieldLink RX9 35 "LuckyTicket" "current" "LLuckyTicket$Roll;") (List.mem_of_getElem? (i := 1) rfl)) (fun _ h9 => h9) rfl dX9_figure_1 ?_
  refine lv_iload_n hx hb dX9_figure_4 rfl (lv_at hl 1 rfl) ?_
  refine vp_callSi (W.runV (As := [.int a1]) (rest := []) ⟨hx, hb, hml, hown, hts⟩ (kX2_hasTicket l dC dI cu ln bs tk lw li fa lu a1 b_ln b_bs b_tk b_lw) (cwV 1 hts gX9_figure__X2_hasTicket_V100 rfl rfl rfl hd_yX2_hasTicket ⟨lel 1 2 rfl, lel 21 42 rfl⟩) ⟨pw_fb, rcv_X2 hK hP (q0 := 1) rfl, (pw_use hP hK hN [1] rfl [] rfl)⟩ rfl rfl hl.1 rfl (lv_room (Nat.le_of_ble_eq_true rfl)) dX9_figure_5 ⟨lel 0 0 rfl, lel 0 0 rfl⟩) (fun r_9 h_r_9 => ?_)
  obtain ⟨b_r_9, nz_r_9⟩ := h_r_9
  have b_r_9 : (0 : Int) ≤ r_9.toInt ∧ r_9.toInt ≤ 1 := b_r_9
  refine lv_if_eq (tgt := 22) hx hb dX9_figure_8 (by decide) (fun c_10 => ?_) (fun c_10 => ?_)
  ·
    have n_c_10 : (r_9.toInt : Int) = 0 := c_eq rfl (by decide) c_10
    have b_r_9 : (0 : Int) ≤ r_9.toInt ∧ r_9.toInt ≤ 0 := r_eq1 b_r_9 (by decide : (0 : Int) ≤ (0 : Int32).toInt ∧ (0 : Int32).toInt ≤ 0) n_c_10 (by decide)
    refine lv_bipush (v := (-2)) hx hb dX9_figure_22 (by decide) ?_
    exact W.iret (v := (-2)) hx hb hr (fun t ht hW => ⟨(-2), rfl, (rg_w (by decide : (-2 : Int) ≤ ((-2) : Int32).toInt ∧ ((-2) : Int32).toInt ≤ -2) (by decide) (by decide)), ht⟩) t_nil dX9_figure_24
  ·
    have n_c_10 : (r_9.toInt : Int) ≠ 0 := c_ne rfl (by decide) c_10
    have b_r_9 : (1 : Int) ≤ r_9.toInt ∧ r_9.toInt ≤ 1 := r_ne1 b_r_9 (by decide : (0 : Int) ≤ (0 : Int32).toInt ∧ (0 : Int32).toInt ≤ 0) n_c_10 (by decide)
    obtain ⟨b_a1, g_11⟩ := nz_r_9 c_10
    refine lv_aload_n hx hb dX9_figure_11 rfl (lv_at hl 0 rfl) ?_
    refine va_get (D := (dC, dI)) (ci := 7) (v := .ref cu) (C := RX9) (T := TX9) (N := 10) hx hb hts iX9_figure_X9 hown hK hP 0 rfl rfl 3 (by decide) (hts (.fieldLink RX9 35 "LuckyTicket" "current" "LLuckyTicket$Roll;") (List.mem_of_getElem? (i := 1) rfl)) (fun _ h9 => h9) rfl dX9_figure_12 ?_
    refine lv_iload_n hx hb dX9_figure_15 rfl (lv_at hl 2 rfl) ?_
    refine vp_callSi (W.runV (As := [.int a2]) (rest := []) ⟨hx, hb, hml, hown, hts⟩ (kX2_hasPlace l dC dI cu ln bs tk lw li fa lu a2 b_ln b_bs b_tk b_lw) (cwV 1 hts gX9_figure__X2_hasPlace_V103 rfl rfl rfl hd_yX2_hasPlace ⟨lel 1 2 rfl, lel 21 42 rfl⟩) ⟨pw_fb, rcv_X2 hK hP (q0 := 1) rfl, (pw_use hP hK hN [1] rfl [] rfl)⟩ rfl rfl hl.1 rfl (lv_room (Nat.le_of_ble_eq_true rfl)) dX9_figure_16 ⟨lel 0 0 rfl, lel 0 0 rfl⟩) (fun r_12 h_r_12 => ?_)
    obtain ⟨b_r_12, nz_r_12⟩ := h_r_12
    have b_r_12 : (0 : Int) ≤ r_12.toInt ∧ r_12.toInt ≤ 1 := b_r_12
    refine lv_if_ne (tgt := 25) hx hb dX9_figure_19 (by decide) (fun c_13 => ?_) (fun c_13 => ?_)
    ·
      have n_c_13 : (r_12.toInt : Int) ≠ 0 := c_ne rfl (by decide) c_13
      have b_r_12 : (1 : Int) ≤ r_12.toInt ∧ r_12.toInt ≤ 1 := r_ne1 b_r_12 (by decide : (0 : Int) ≤ (0 : Int32).toInt ∧ (0 : Int32).toInt ≤ 0) n_c_13 (by decide)
      obtain ⟨b_a2, g_14⟩ := nz_r_12 c_13
      refine lv_aload_n hx hb dX9_figure_25 rfl (lv_at hl 0 rfl) ?_
      refine va_get (D := (dC, dI)) (ci := 7) (v := .ref cu) (C := RX9) (T := TX9) (N := 10) hx hb hts iX9_figure_X9 hown hK hP 0 rfl rfl 3 (by decide) (hts (.fieldLink RX9 35 "LuckyTicket" "current" "LLuckyTicket$Roll;") (List.mem_of_getElem? (i := 1) rfl)) (fun _ h9 => h9) rfl dX9_figure_26 ?_
      refine lv_iload_n hx hb dX9_figure_29 rfl (lv_at hl 1 rfl) ?_
      refine vp_callSl (W.runV (As := [.int a1]) (rest := []) ⟨hx, hb, hml, hown, hts⟩ (kX2_faceOf l dC dI cu ln bs tk lw li fa lu cF nf ff a1 b_ln b_bs b_tk b_lw (by omega)) (cwV 1 hts gX9_figure__X2_faceOf_V106 rfl rfl rfl hd_yX2_faceOf ⟨lel 2 2 rfl, lel 42 42 rfl⟩) ⟨pw_fb, rcv_X2 hK hP (q0 := 1) rfl, (pw_use hP hK hN [1, 2] rfl [0] rfl)⟩ rfl rfl hl.1 rfl (lv_room (Nat.le_of_ble_eq_true rfl)) dX9_figure_30 ⟨lel 0 0 rfl, lel 0 0 rfl⟩) (fun r_15 h_r_15 => ?_)
      refine lv_aload_n hx hb dX9_figure_33 rfl (lv_at hl 0 rfl) ?_
      refine va_get (D := (dC, dI)) (ci := 7) (v := .ref cu) (C := RX9) (T := TX9) (N := 10) hx hb hts iX9_figure_X9 hown hK hP 0 rfl rfl 3 (by decide) (hts (.fieldLink RX9 35 "LuckyTicket" "current" "LLuckyTicket$Roll;") (List.mem_of_getElem? (i := 1) rfl)) (fun _ h9 => h9) rfl dX9_figure_34 ?_
      refine va_getN (own := RX9) (index := 110) (ref := RX2) (host := RX9) (D := (dC, dI)) (ci := 1) (v := .int ln) (C := RX2) (T := TX2) (N := 7) hx hb hts iX9_figure_X2 hown hK hP 1 rfl rfl 0 (by decide) (va_Nw.use rfl (hN _ (List.mem_of_getElem? (i := 14) rfl))) (fun _ h9 => h9) rfl dX9_figure_37 ?_
      refine lv_iload_n hx hb dX9_figure_40 rfl (lv_at hl 2 rfl) ?_
      refine vp_callSi (W.runS (As := [.long r_15, .int ln, .int a2]) (rest := []) ⟨hx, hb, hml, hown, hts⟩ (kX0_figureAt l dC dI r_15 ln a2 ) (va_cwS 3 hts gX9_figure__X0_figureAt_S113 rfl rfl rfl hd_yX0_figureAt.2 ⟨lel 1 2 rfl, lel 23 42 rfl⟩) ⟨pn_fb, pn_use⟩ rfl rfl hl.1 rfl (lv_room (Nat.le_of_ble_eq_true rfl)) dX9_figure_41 ⟨lel 0 0 rfl, lel 0 0 rfl⟩) (fun r_16 h_r_16 => ?_)
      have b_r_16 := h_r_16
      have b_r_16 : (0 : Int) ≤ r_16.toInt ∧ r_16.toInt ≤ 15 := b_r_16
      exact W.iret (v := r_16) hx hb hr (fun t ht hW => ⟨r_16, rfl, (rg_w b_r_16 (by decide) (by decide)), ht⟩) t_nil dX9_figure_44
    ·
      have n_c_13 : (r_12.toInt : Int) = 0 := c_eq rfl (by decide) c_13
      have b_r_12 : (0 : Int) ≤ r_12.toInt ∧ r_12.toInt ≤ 0 := r_eq1 b_r_12 (by decide : (0 : Int) ≤ (0 : Int32).toInt ∧ (0 : Int32).toInt ≤ 0) n_c_13 (by decide)
      refine lv_bipush (v := (-2)) hx hb dX9_figure_22 (by decide) ?_
      exact W.iret (v := (-2)) hx hb hr (fun t ht hW => ⟨(-2), rfl, (rg_w (by decide : (-2 : Int) ≤ ((-2) : Int32).toInt ∧ ((-2) : Int32).toInt ≤ -2) (by decide) (by decide)), ht⟩) t_nil dX9_figure_24
theorem dX9_sums_0 : decode cX9_sums 0 = .ok (.aload_n 0, 1) := by decide +kernel
theorem dX9_sums_1 : decode cX9_sums 1 = .ok (.getfield 35, 3) := by decide +kernel
theorem dX9_sums_4 : decode cX9_sums 4 = .ok (.iload_n 1, 1) := by decide +kernel
theorem dX9_sums_5 : decode cX9_sums 5 = .ok (.invokevirtual 100, 3) := by decide +kernel
theorem dX9_sums_8 : decode cX9_sums 8 = .ok (.ifCond .ne 6, 3) := by decide +kernel
theorem dX9_sums_11 : decode cX9_sums 11 = .ok (.bipush (-2), 2) := by decide +kernel
theorem dX9_sums_13 : decode cX9_sums 13 = .ok (.ireturn, 1) := by decide +kernel
theorem dX9_sums_14 : decode cX9_sums 14 = .ok (.aload_n 0, 1) := by decide +kernel
theorem dX9_sums_15 : decode cX9_sums 15 = .ok (.getfield 35, 3) := by decide +kernel
theorem dX9_sums_18 : decode cX9_sums 18 = .ok (.iload_n 1, 1) := by decide +kernel
theorem dX9_sums_19 : decode cX9_sums 19 = .ok (.invokevirtual 106, 3) := by decide +kernel
theorem dX9_sums_22 : decode cX9_sums 22 = .ok (.lstore_n 3, 1) := by decide +kernel
theorem dX9_sums_23 : decode cX9_sums 23 = .ok (.aload_n 0, 1) := by decide +kernel
theorem dX9_sums_24 : decode cX9_sums 24 = .ok (.getfield 35, 3) := by decide +kernel
theorem dX9_sums_27 : decode cX9_sums 27 = .ok (.getfield 110, 3) := by decide +kernel
theorem dX9_sums_30 : decode cX9_sums 30 = .ok (.istore 5, 2) := by decide +kernel
theorem dX9_sums_32 : decode cX9_sums 32 = .ok (.iload_n 2, 1) := by decide +kernel
theorem dX9_sums_33 : decode cX9_sums 33 = .ok (.tableswitch 97 0 5 #[39, 44, 55, 66, 78, 90], 39) := by decide +kernel
theorem dX9_sums_72 : decode cX9_sums 72 = .ok (.lload_n 3, 1) := by decide +kernel
theorem dX9_sums_73 : decode cX9_sums 73 = .ok (.invokestatic 119, 3) := by decide +kernel
theorem dX9_sums_76 : decode cX9_sums 76 = .ok (.ireturn, 1) := by decide +kernel
theorem dX9_sums_77 : decode cX9_sums 77 = .ok (.lload_n 3, 1) := by decide +kernel
theorem dX9_sums_78 : decode cX9_sums 78 = .ok (.iload 5, 2) := by decide +kernel
theorem dX9_sums_80 : decode cX9_sums 80 = .ok (.invokestatic 123, 3) := by decide +kernel
theorem dX9_sums_83 : decode cX9_sums 83 = .ok (.land, 1) := by decide +kernel
theorem dX9_sums_84 : decode cX9_sums 84 = .ok (.invokestatic 119, 3) := by decide +kernel
theorem dX9_sums_87 : decode cX9_sums 87 = .ok (.ireturn, 1) := by decide +kernel
theorem dX9_sums_88 : decode cX9_sums 88 = .ok (.lload_n 3, 1) := by decide +kernel
theorem dX9_sums_89 : decode cX9_sums 89 = .ok (.iload 5, 2) := by decide +kernel
theorem dX9_sums_91 : decode cX9_sums 91 = .ok (.invokestatic 126, 3) := by decide +kernel
theorem dX9_sums_94 : decode cX9_sums 94 = .ok (.land, 1) := by decide +kernel
theorem dX9_sums_95 : decode cX9_sums 95 = .ok (.invokestatic 119, 3) := by decide +kernel
theorem dX9_sums_98 : decode cX9_sums 98 = .ok (.ireturn, 1) := by decide +kernel
theorem dX9_sums_99 : decode cX9_sums 99 = .ok (.lload_n 3, 1) := by decide +kernel
theorem dX9_sums_100 : decode cX9_sums 100 = .ok (.iload 5, 2) := by decide +kernel
theorem dX9_sums_102 : decode cX9_sums 102 = .ok (.iconst 0, 1) := by decide +kernel
theorem dX9_sums_103 : decode cX9_sums 103 = .ok (.invokestatic 129, 3) := by decide +kernel
theorem dX9_sums_106 : decode cX9_sums 106 = .ok (.land, 1) := by decide +kernel
theorem dX9_sums_107 : decode cX9_sums 107 = .ok (.invokestatic 119, 3) := by decide +kernel
theorem dX9_sums_110 : decode cX9_sums 110 = .ok (.ireturn, 1) := by decide +kernel
theorem dX9_sums_111 : decode cX9_sums 111 = .ok (.lload_n 3, 1) := by decide +kernel
theorem dX9_sums_112 : decode cX9_sums 112 = .ok (.iload 5, 2) := by decide +kernel
theorem dX9_sums_114 : decode cX9_sums 114 = .ok (.iconst 1, 1) := by decide +kernel
theorem dX9_sums_115 : decode cX9_sums 115 = .ok (.invokestatic 129, 3) := by decide +kernel
theorem dX9_sums_118 : decode cX9_sums 118 = .ok (.land, 1) := by decide +kernel
theorem dX9_sums_119 : decode cX9_sums 119 = .ok (.invokestatic 119, 3) := by decide +kernel
theorem dX9_sums_122 : decode cX9_sums 122 = .ok (.ireturn, 1) := by decide +kernel
theorem dX9_sums_123 : decode cX9_sums 123 = .ok (.lload_n 3, 1) := by decide +kernel
theorem dX9_sums_124 : decode cX9_sums 124 = .ok (.iload 5, 2) := by decide +kernel
theorem dX9_sums_126 : decode cX9_sums 126 = .ok (.invokestatic 133, 3) := by decide +kernel
theorem dX9_sums_129 : decode cX9_sums 129 = .ok (.ireturn, 1) := by decide +kernel
theorem dX9_sums_130 : decode cX9_sums 130 = .ok (.bipush (-2), 2) := by decide +kernel
theorem dX9_sums_132 : decode cX9_sums 132 = .ok (.ireturn, 1) := by decide +kernel
theorem hd_yX9_sums : yX9_sums.cls = RX9 ∧ yX9_sums.cls ≠ "java/lang/invoke/MethodHandle" ∧ yX9_sums.cls ≠ "java/lang/invoke/VarHandle" ∧ (parseMethodDescriptor yX9_sums.desc).map (fun d => d.parameters.length) = some 2 := by decide +kernel
def uX9_sums : List Cond := List.cons (.code yX9_sums cX9_sums 6 (some .int)) (HAppend.hAppend ([.fieldLink RX9 35 "LuckyTicket" "current" "LLuckyTicket$Roll;", .methodLink RX9 100 yX2_hasTicket, .instanceMethod yX2_hasTicket, .selects RX2 yX2_hasTicket yX2_hasTicket, .initialized RX2, .methodLink RX9 106 yX2_faceOf, .instanceMethod yX2_faceOf, .selects RX2 yX2_faceOf yX2_faceOf, .methodLink RX9 119 yX0_sumOf, .static yX0_sumOf, .initialized RX0, .methodLink RX9 123 yX0_firstHalf, .static yX0_firstHalf, .methodLink RX9 126 yX0_lastHalf, .static yX0_lastHalf, .methodLink RX9 129 yX0_everySecond, .static yX0_everySecond, .methodLink RX9 133 yX0_kindsOf, .static yX0_kindsOf] : List Cond) (HAppend.hAppend uX2_hasTicket (HAppend.hAppend uX2_faceOf (HAppend.hAppend uX0_sumOf (HAppend.hAppend uX0_firstHalf (HAppend.hAppend uX0_lastHalf (HAppend.hAppend uX0_everySecond (HAppend.hAppend uX0_kindsOf (HAppend.hAppend wsX90 wsX20)))))))))
theorem iX9_sums_X9 : ∀ w ∈ wsX90, w ∈ uX9_sums := fun _ h => (List.mem_cons_of_mem _ (List.mem_append_right _ (List.mem_append_right _ (List.mem_append_right _ (List.mem_append_right _ (List.mem_append_right _ (List.mem_append_right _ (List.mem_append_right _ (List.mem_append_right _ (List.mem_append_left _ h))))))))))
theorem iX9_sums_X2 : ∀ w ∈ wsX20, w ∈ uX9_sums := fun _ h => (List.mem_cons_of_mem _ (List.mem_append_right _ (List.mem_append_right _ (List.mem_append_right _ (List.mem_append_right _ (List.mem_append_right _ (List.mem_append_right _ (List.mem_append_right _ (List.mem_append_right _ (List.mem_append_right _ h))))))))))
theorem guX9_sums : GU uX9_sums := gu_cons (gu_app (by decide +kernel) (gu_ap guX2_hasTicket (gu_ap guX2_faceOf (gu_ap guX0_sumOf (gu_ap guX0_firstHalf (gu_ap guX0_lastHalf (gu_ap guX0_everySecond (gu_ap guX0_kindsOf (gu_ap gws_X9 gws_X2)))))))))
theorem gX9_sums__X2_hasTicket_V100 : GoodIn uX9_sums (wsV RX9 100 RX2 yX2_hasTicket uX2_hasTicket) := gin_V (List.mem_of_getElem? (i := 2) rfl) (List.mem_of_getElem? (i := 3) rfl) (List.mem_of_getElem? (i := 4) rfl) (List.mem_of_getElem? (i := 5) rfl) (fun _ h => (List.mem_cons_of_mem _ (List.mem_append_right _ (List.mem_append_left _ h)))) guX2_hasTicket
theorem gX9_sums__X2_faceOf_V106 : GoodIn uX9_sums (wsV RX9 106 RX2 yX2_faceOf uX2_faceOf) := gin_V (List.mem_of_getElem? (i := 6) rfl) (List.mem_of_getElem? (i := 7) rfl) (List.mem_of_getElem? (i := 8) rfl) (List.mem_of_getElem? (i := 5) rfl) (fun _ h => (List.mem_cons_of_mem _ (List.mem_append_right _ (List.mem_append_right _ (List.mem_append_left _ h))))) guX2_faceOf
theorem gX9_sums__X0_sumOf_S119 : GoodIn uX9_sums (va_wsS RX9 119 yX0_sumOf uX0_sumOf) := gin_S (List.mem_of_getElem? (i := 9) rfl) (List.mem_of_getElem? (i := 10) rfl) (List.mem_of_getElem? (i := 11) rfl) (fun _ h => (List.mem_cons_of_mem _ (List.mem_append_right _ (List.mem_append_right _ (List.mem_append_right _ (List.mem_append_left _ h)))))) guX0_sumOf
theorem gX9_sums__X0_firstHalf_S123 : GoodIn uX9_sums (va_wsS RX9 123 yX0_firstHalf uX0_firstHalf) := gin_S (List.mem_of_getElem? (i := 12) rfl) (List.mem_of_getElem? (i := 13) rfl) (List.mem_of_getElem? (i := 11) rfl) (fun _ h => (List.mem_cons_of_mem _ (List.mem_append_right _ (List.mem_append_right _ (List.mem_append_right _ (List.mem_append_right _ (List.mem_append_left _ h))))))) guX0_firstHalf
theorem gX9_sums__X0_lastHalf_S126 : GoodIn uX9_sums (va_wsS RX9 126 yX0_lastHalf uX0_lastHalf) := gin_S (List.mem_of_getElem? (i := 14) rfl) (List.mem_of_getElem? (i := 15) rfl) (List.mem_of_getElem? (i := 11) rfl) (fun _ h => (List.mem_cons_of_mem _ (List.mem_append_right _ (List.mem_append_right _ (List.mem_append_right _ (List.mem_append_right _ (List.mem_append_right _ (List.mem_append_left _ h)))))))) guX0_lastHalf
theorem gX9_sums__X0_everySecond_S129 : GoodIn uX9_sums (va_wsS RX9 129 yX0_everySecond uX0_everySecond) := gin_S (List.mem_of_getElem? (i := 16) rfl) (List.mem_of_getElem? (i := 17) rfl) (List.mem_of_getElem? (i := 11) rfl) (fun _ h => (List.mem_cons_of_mem _ (List.mem_append_right _ (List.mem_append_right _ (List.mem_append_right _ (List.mem_append_right _ (List.mem_append_right _ (List.mem_append_right _ (List.mem_append_left _ h))))))))) guX0_everySecond
theorem gX9_sums__X0_kindsOf_S133 : GoodIn uX9_sums (va_wsS RX9 133 yX0_kindsOf uX0_kindsOf) := gin_S (List.mem_of_getElem? (i := 18) rfl) (List.mem_of_getElem? (i := 19) rfl) (List.mem_of_getElem? (i := 11) rfl) (fun _ h => (List.mem_cons_of_mem _ (List.mem_append_right _ (List.mem_append_right _ (List.mem_append_right _ (List.mem_append_right _ (List.mem_append_right _ (List.mem_append_right _ (List.mem_append_right _ (List.mem_append_left _ h)))))))))) guX0_kindsOf
set_option maxHeartbeats 4000000 in
set_option maxRecDepth 100000 in
theorem kX9_sums (l : Launch) (dC : Nat → ClassId) (dI : Nat → Nat → Nat) (h0 : Nat) (tp : Nat) (sc : Nat) (rd : Nat) (cu : Nat) (im : Nat) (ig : Nat) (sl : Nat) (se : Nat) (sm : Nat) (fc : Nat) (ln : Int32) (bs : Int32) (tk : Int32) (lw : Int32) (li : Int32) (fa : Nat) (lu : Nat) (cF : ClassId) (nf : Nat) (ff : Nat → Int64) (a1 : Int32) (a2 : Int32) (b_ln : (0 : Int) ≤ ln.toInt ∧ ln.toInt ≤ 12) (b_bs : (0 : Int) ≤ bs.toInt ∧ bs.toInt ≤ 16) (b_tk : (0 : Int) ≤ tk.toInt ∧ tk.toInt ≤ 20000) (b_lw : (0 : Int) ≤ lw.toInt ∧ lw.toInt ≤ 9) (hf1 : tk.toInt ≤ (nf : Int)) : Met l yX9_sums uX9_sums ({ frames := 3, cells := 0, slots := 0, locals := 66 }) (va_Pc [.ref h0, .int a1, .int a2] (pw (dC, dI) vwCl [(h0, .inr (7, [.ref tp, .ref sc, .ref rd, .ref cu, .ref im, .ref ig, .ref sl, .ref se, .ref sm, .ref fc])), (cu, .inr (1, [.int ln, .int bs, .int tk, .int lw, .int li, .ref fa, .ref lu])), (fa, .inl (cF, nf, .inr (.inl ff)))] [(cF, .long)])) (vp_Si (fun r => ((-2 : Int) ≤ r.toInt ∧ r.toInt ≤ 255))) 0 0 (fun _ => False) := by
  refine Met.ofW (cc := cX9_sums) (maxL := 6) (ret := (some .int)) pn_X9 rfl ?_
  intro p e s m args below meth c s₁ B hml hv
  obtain ⟨rfl, hP, hK, hN⟩ := hv
  have hx := B.exec
  have hb := B.bytes
  have hr := B.returns
  have hts := atoms_spec (ws := uX9_sums) B.pre
  have hown : s.vm.findClass RX9 = some m.cls := hown_of B.named rfl
  have hlocks := B.notSynchronized
  have hl := lv_entry ([.ref h0, .int a1, .int a2]) (n := 6) (Nat.le_of_ble_eq_true rfl)
  rw [lg_entry_eq]
  generalize (lg_sl ([.ref h0, .int a1, .int a2]) ++ List.replicate (6 - (lg_sl ([.ref h0, .int a1, .int a2])).length) Slot.unset).toArray = ls at hl ⊢
  have hl : lv_has ls 6 [(0, .ref h0), (1, .int a1), (2, .int a2)] := hl
  refine lv_aload_n hx hb dX9_sums_0 rfl (lv_at hl 0 rfl) ?_
  refine va_get (D := (dC, dI)) (ci := 7) (v := .ref cu) (C := RX9) (T := TX9) (N := 10) hx hb hts iX9_sums_X9 hown hK hP 0 rfl rfl 3 (by decide) (hts (.fieldLink RX9 35 "LuckyTicket" "current" "LLuckyTicket$Roll;") (List.mem_of_getElem? (i := 1) rfl)) (fun _ h9 => h9) rfl dX9_sums_1 ?_
  refine lv_iload_n hx hb dX9_sums_4 rfl (lv_at hl 1 rfl) ?_
  refine vp_callSi (W.runV (As := [.int a1]) (rest := []) ⟨hx, hb, hml, hown, hts⟩ (kX2_hasTicket l dC dI cu ln bs tk lw li fa lu a1 b_ln b_bs b_tk b_lw) (cwV 1 hts gX9_sums__X2_hasTicket_V100 rfl rfl rfl hd_yX2_hasTicket ⟨lel 1 3 rfl, lel 21 66 rfl⟩) ⟨pw_fb, rcv_X2 hK hP (q0 := 1) rfl, (pw_use hP hK hN [1] rfl [] rfl)⟩ rfl rfl hl.1 rfl (lv_room (Nat.le_of_ble_eq_true rfl)) dX9_sums_5 ⟨lel 0 0 rfl, lel 0 0 rfl⟩) (fun r_20 h_r_20 => ?_)
  obtain ⟨b_r_20, nz_r_20⟩ := h_r_20
  have b_r_20 : (0 : Int) ≤ r_20.toInt ∧ r_20.toInt ≤ 1 := b_r_20
  refine lv_if_ne (tgt := 14) hx hb dX9_sums_8 (by decide) (fun c_21 => ?_) (fun c_21 => ?_)
  ·
    have n_c_21 : (r_20.toInt : Int) ≠ 0 := c_ne rfl (by decide) c_21
    have b_r_20 : (1 : Int) ≤ r_20.toInt ∧ r_20.toInt ≤ 1 := r_ne1 b_r_20 (by decide : (0 : Int) ≤ (0 : Int32).toInt ∧ (0 : Int32).toInt ≤ 0) n_c_21 (by decide)
    obtain ⟨b_a1, g_22⟩ := nz_r_20 c_21
    refine lv_aload_n hx hb dX9_sums_14 rfl (lv_at hl 0 rfl) ?_
    refine va_get (D := (dC, dI)) (ci := 7) (v := .ref cu) (C := RX9) (T := TX9) (N := 10) hx hb hts iX9_sums_X9 hown hK hP 0 rfl rfl 3 (by decide) (hts (.fieldLink RX9 35 "LuckyTicket" "current" "LLuckyTicket$Roll;") (List.mem_of_getElem? (i := 1) rfl)) (fun _ h9 => h9) rfl dX9_sums_15 ?_
    refine lv_iload_n hx hb dX9_sums_18 rfl (lv_at hl 1 rfl) ?_
    refine vp_callSl (W.runV (As := [.int a1]) (rest := []) ⟨hx, hb, hml, hown, hts⟩ (kX2_faceOf l dC dI cu ln bs tk lw li fa lu cF nf ff a1 b_ln b_bs b_tk b_lw (by omega)) (cwV 1 hts gX9_sums__X2_faceOf_V106 rfl rfl rfl hd_yX2_faceOf ⟨lel 2 3 rfl, lel 42 66 rfl⟩) ⟨pw_fb, rcv_X2 hK hP (q0 := 1) rfl, (pw_use hP hK hN [1, 2] rfl [0] rfl)⟩ rfl rfl hl.1 rfl (lv_room (Nat.le_of_ble_eq_true rfl)) dX9_sums_19 ⟨lel 0 0 rfl, lel 0 0 rfl⟩) (fun r_23 h_r_23 => ?_)
    refine lv_lstore_n (lv' := [(3, .long r_23), (0, .ref h0), (1, .int a1), (2, .int a2)]) hx hb dX9_sums_22 rfl hl (by decide) rfl (fun ls hl => ?_)
    refine lv_aload_n hx hb dX9_sums_23 rfl (lv_at hl 1 rfl) ?_
    refine va_get (D := (dC, dI)) (ci := 7) (v := .ref cu) (C := RX9) (T := TX9) (N := 10) hx hb hts iX9_sums_X9 hown hK hP 0 rfl rfl 3 (by decide) (hts (.fieldLink RX9 35 "LuckyTicket" "current" "LLuckyTicket$Roll;") (List.mem_of_getElem? (i := 1) rfl)) (fun _ h9 => h9) rfl dX9_sums_24 ?_
    refine va_getN (own := RX9) (index := 110) (ref := RX2) (host := RX9) (D := (dC, dI)) (ci := 1) (v := .int ln) (C := RX2) (T := TX2) (N := 7) hx hb hts iX9_sums_X2 hown hK hP 1 rfl rfl 0 (by decide) (va_Nw.use rfl (hN _ (List.mem_of_getElem? (i := 14) rfl))) (fun _ h9 => h9) rfl dX9_sums_27 ?_
    refine lv_istore (lv' := [(5, .int ln), (3, .long r_23), (0, .ref h0), (1, .int a1), (2, .int a2)]) hx hb dX9_sums_30 hl (by decide) rfl (fun ls hl => ?_)
    refine lv_iload_n hx hb dX9_sums_32 rfl (lv_at hl 4 rfl) ?_
    rcases (show (a2.toInt < 0 ∨ 5 < a2.toInt) ∨ a2.toInt = 0 ∨ a2.toInt = 1 ∨ a2.toInt = 2 ∨ a2.toInt = 3 ∨ a2.toInt = 4 ∨ a2.toInt = 5 by omega) with c_24 | c_24 | c_24 | c_24 | c_24 | c_24 | c_24
    ·
      refine lv_tableOut (tgt := 130) hx hb dX9_sums_33 c_24 (by decide) ?_
      refine lv_bipush (v := (-2)) hx hb dX9_sums_130 (by decide) ?_
      exact W.iret (v := (-2)) hx hb hr (fun t ht hW => ⟨(-2), rfl, (rg_w (by decide : (-2 : Int) ≤ ((-2) : Int32).toInt ∧ ((-2) : Int32).toInt ≤ -2) (by decide) (by decide)), ht⟩) t_nil dX9_sums_132
    ·
      refine lv_tableIn (off := 39) (tgt := 72) hx hb dX9_sums_33 (by omega) (by omega) (by rw [c_24]; rfl) (by decide) ?_
      have b_a2 : (0 : Int) ≤ a2.toInt ∧ a2.toInt ≤ 0 := ⟨by omega, by omega⟩
      refine lv_lload_n hx hb dX9_sums_72 rfl (lv_at hl 1 rfl) ?_
      refine vp_callSi (W.runS (As := [.long r_23]) (rest := []) ⟨hx, hb, hml, hown, hts⟩ (kX0_sumOf l dC dI r_23 ) (va_cwS 1 hts gX9_sums__X0_sumOf_S119 rfl rfl rfl hd_yX0_sumOf.2 ⟨lel 1 3 rfl, lel 23 66 rfl⟩) ⟨pn_fb, pn_use⟩ rfl rfl hl.1 rfl (lv_room (Nat.le_of_ble_eq_true rfl)) dX9_sums_73 ⟨lel 0 0 rfl, lel 0 0 rfl⟩) (fun r_25 h_r_25 => ?_)
      have b_r_25 := h_r_25
      have b_r_25 : (0 : Int) ≤ r_25.toInt ∧ r_25.toInt ≤ 255 := b_r_25
      exact W.iret (v := r_25) hx hb hr (fun t ht hW => ⟨r_25, rfl, (rg_w b_r_25 (by decide) (by decide)), ht⟩) t_nil dX9_sums_76
    ·
      refine lv_tableIn (off := 44) (tgt := 77) hx hb dX9_sums_33 (by omega) (by omega) (by rw [c_24]; rfl) (by decide) ?_
      have b_a2 : (1 : Int) ≤ a2.toInt ∧ a2.toInt ≤ 1 := ⟨by omega, by omega⟩
      refine lv_lload_n hx hb dX9_sums_77 rfl (lv_at hl 1 rfl) ?_
      refine lv_iload hx hb dX9_sums_78 (lv_at hl 0 rfl) ?_
      refine vp_callSl (W.runS (As := [.int ln]) (rest := [.long r_23]) ⟨hx, hb, hml, hown, hts⟩ (kX0_firstHalf l dC dI ln b_ln) (va_cwS 1 hts gX9_sums__X0_firstHalf_S123 rfl rfl rfl hd_yX0_firstHalf.2 ⟨lel 3 3 rfl, lel 66 66 rfl⟩) ⟨pn_fb, pn_use⟩ rfl rfl hl.1 rfl (lv_room (Nat.le_of_ble_eq_true rfl)) dX9_sums_80 ⟨lel 0 0 rfl, lel 0 0 rfl⟩) (fun r_26 h_r_26 => ?_)
      refine lv_land hx hb dX9_sums_83 ?_
      refine lv_topl (fun z_27 e_z_27 => ?_)
      refine vp_callSi (W.runS (As := [.long z_27]) (rest := []) ⟨hx, hb, hml, hown, hts⟩ (kX0_sumOf l dC dI z_27 ) (va_cwS 1 hts gX9_sums__X0_sumOf_S119 rfl rfl rfl hd_yX0_sumOf.2 ⟨lel 1 3 rfl, lel 23 66 rfl⟩) ⟨pn_fb, pn_use⟩ rfl rfl hl.1 rfl (lv_room (Nat.le_of_ble_eq_true rfl)) dX9_sums_84 ⟨lel 0 0 rfl, lel 0 0 rfl⟩) (fun r_28 h_r_28 => ?_)
      have b_r_28 := h_r_28
      have b_r_28 : (0 : Int) ≤ r_28.toInt ∧ r_28.toInt ≤ 255 := b_r_28
      exact W.iret (v := r_28) hx hb hr (fun t ht hW => ⟨r_28, rfl, (rg_w b_r_28 (by decide) (by decide)), ht⟩) t_nil dX9_sums_87
    ·
      refine lv_tableIn (off := 55) (tgt := 88) hx hb dX9_sums_33 (by omega) (by omega) (by rw [c_24]; rfl) (by decide) ?_
      have b_a2 : (2 : Int) ≤ a2.toInt ∧ a2.toInt ≤ 2 := ⟨by omega, by omega⟩
      refine lv_lload_n hx hb dX9_sums_88 rfl (lv_at hl 1 rfl) ?_
      refine lv_iload hx hb dX9_sums_89 (lv_at hl 0 rfl) ?_
      refine vp_callSl (W.runS (As := [.int ln]) (rest := [.long r_23]) ⟨hx, hb, hml, hown, hts⟩ (kX0_lastHalf l dC dI ln b_ln) (va_cwS 1 hts gX9_sums__X0_lastHalf_S126 rfl rfl rfl hd_yX0_lastHalf.2 ⟨lel 3 3 rfl, lel 66 66 rfl⟩) ⟨pn_fb, pn_use⟩ rfl rfl hl.1 rfl (lv_room (Nat.le_of_ble_eq_true rfl)) dX9_sums_91 ⟨lel 0 0 rfl, lel 0 0 rfl⟩) (fun r_29 h_r_29 => ?_)
      refine lv_land hx hb dX9_sums_94 ?_
      refine lv_topl (fun z_30 e_z_30 => ?_)
      refine vp_callSi (W.runS (As := [.long z_30]) (rest := []) ⟨hx, hb, hml, hown, hts⟩ (kX0_sumOf l dC dI z_30 ) (va_cwS 1 hts gX9_sums__X0_sumOf_S119 rfl rfl rfl hd_yX0_sumOf.2 ⟨lel 1 3 rfl, lel 23 66 rfl⟩) ⟨pn_fb, pn_use⟩ rfl rfl hl.1 rfl (lv_room (Nat.le_of_ble_eq_true rfl)) dX9_sums_95 ⟨lel 0 0 rfl, lel 0 0 rfl⟩) (fun r_31 h_r_31 => ?_)
      have b_r_31 := h_r_31
      have b_r_31 : (0 : Int) ≤ r_31.toInt ∧ r_31.toInt ≤ 255 := b_r_31
      exact W.iret (v := r_31) hx hb hr (fun t ht hW => ⟨r_31, rfl, (rg_w b_r_31 (by decide) (by decide)), ht⟩) t_nil dX9_sums_98
    ·
      refine lv_tableIn (off := 66) (tgt := 99) hx hb dX9_sums_33 (by omega) (by omega) (by rw [c_24]; rfl) (by decide) ?_
      have b_a2 : (3 : Int) ≤ a2.toInt ∧ a2.toInt ≤ 3 := ⟨by omega, by omega⟩
      refine lv_lload_n hx hb dX9_sums_99 rfl (lv_at hl 1 rfl) ?_
      refine lv_iload hx hb dX9_sums_100 (lv_at hl 0 rfl) ?_
      refine lv_iconst (v := 0) hx hb dX9_sums_102 (by decide) ?_
      refine vp_callSl (W.runS (As := [.int ln, .int 0]) (rest := [.long r_23]) ⟨hx, hb, hml, hown, hts⟩ (kX0_everySecond l dC dI ln 0 b_ln (rg_w (by decide : (0 : Int) ≤ (0 : Int32).toInt ∧ (0 : Int32).toInt ≤ 0) (by decide) (by decide))) (va_cwS 2 hts gX9_sums__X0_everySecond_S129 rfl rfl rfl hd_yX0_everySecond.2 ⟨lel 2 3 rfl, lel 45 66 rfl⟩) ⟨pn_fb, pn_use⟩ rfl rfl hl.1 rfl (lv_room (Nat.le_of_ble_eq_true rfl)) dX9_sums_103 ⟨lel 0 0 rfl, lel 0 0 rfl⟩) (fun r_32 h_r_32 => ?_)
      refine lv_land hx hb dX9_sums_106 ?_
      refine lv_topl (fun z_33 e_z_33 => ?_)
      refine vp_callSi (W.runS (As := [.long z_33]) (rest := []) ⟨hx, hb, hml, hown, hts⟩ (kX0_sumOf l dC dI z_33 ) (va_cwS 1 hts gX9_sums__X0_sumOf_S119 rfl rfl rfl hd_yX0_sumOf.2 ⟨lel 1 3 rfl, lel 23 66 rfl⟩) ⟨pn_fb, pn_use⟩ rfl rfl hl.1 rfl (lv_room (Nat.le_of_ble_eq_true rfl)) dX9_sums_107 ⟨lel 0 0 rfl, lel 0 0 rfl⟩) (fun r_34 h_r_34 => ?_)
      have b_r_34 := h_r_34
      have b_r_34 : (0 : Int) ≤ r_34.toInt ∧ r_34.toInt ≤ 255 := b_r_34
      exact W.iret (v := r_34) hx hb hr (fun t ht hW => ⟨r_34, rfl, (rg_w b_r_34 (by decide) (by decide)), ht⟩) t_nil dX9_sums_110
    ·
      refine lv_tableIn (off := 78) (tgt := 111) hx hb dX9_sums_33 (by omega) (by omega) (by rw [c_24]; rfl) (by decide) ?_
      have b_a2 : (4 : Int) ≤ a2.toInt ∧ a2.toInt ≤ 4 := ⟨by omega, by omega⟩
      refine lv_lload_n hx hb dX9_sums_111 rfl (lv_at hl 1 rfl) ?_
      refine lv_iload hx hb dX9_sums_112 (lv_at hl 0 rfl) ?_
      refine lv_iconst (v := 1) hx hb dX9_sums_114 (by decide) ?_
      refine vp_callSl (W.runS (As := [.int ln, .int 1]) (rest := [.long r_23]) ⟨hx, hb, hml, hown, hts⟩ (kX0_everySecond l dC dI ln 1 b_ln (rg_w (by decide : (1 : Int) ≤ (1 : Int32).toInt ∧ (1 : Int32).toInt ≤ 1) (by decide) (by decide))) (va_cwS 2 hts gX9_sums__X0_everySecond_S129 rfl rfl rfl hd_yX0_everySecond.2 ⟨lel 2 3 rfl, lel 45 66 rfl⟩) ⟨pn_fb, pn_use⟩ rfl rfl hl.1 rfl (lv_room (Nat.le_of_ble_eq_true rfl)) dX9_sums_115 ⟨lel 0 0 rfl, lel 0 0 rfl⟩) (fun r_35 h_r_35 => ?_)
      refine lv_land hx hb dX9_sums_118 ?_
      refine lv_topl (fun z_36 e_z_36 => ?_)
      refine vp_callSi (W.runS (As := [.long z_36]) (rest := []) ⟨hx, hb, hml, hown, hts⟩ (kX0_sumOf l dC dI z_36 ) (va_cwS 1 hts gX9_sums__X0_sumOf_S119 rfl rfl rfl hd_yX0_sumOf.2 ⟨lel 1 3 rfl, lel 23 66 rfl⟩) ⟨pn_fb, pn_use⟩ rfl rfl hl.1 rfl (lv_room (Nat.le_of_ble_eq_true rfl)) dX9_sums_119 ⟨lel 0 0 rfl, lel 0 0 rfl⟩) (fun r_37 h_r_37 => ?_)
      have b_r_37 := h_r_37
      have b_r_37 : (0 : Int) ≤ r_37.toInt ∧ r_37.toInt ≤ 255 := b_r_37
      exact W.iret (v := r_37) hx hb hr (fun t ht hW => ⟨r_37, rfl, (rg_w b_r_37 (by decide) (by decide)), ht⟩) t_nil dX9_sums_122
    ·
      refine lv_tableIn (off := 90) (tgt := 123) hx hb dX9_sums_33 (by omega) (by omega) (by rw [c_24]; rfl) (by decide) ?_
      have b_a2 : (5 : Int) ≤ a2.toInt ∧ a2.toInt ≤ 5 := ⟨by omega, by omega⟩
      refine lv_lload_n hx hb dX9_sums_123 rfl (lv_at hl 1 rfl) ?_
      refine lv_iload hx hb dX9_sums_124 (lv_at hl 0 rfl) ?_
      refine vp_callSi (W.runS (As := [.long r_23, .int ln]) (rest := []) ⟨hx, hb, hml, hown, hts⟩ (kX0_kindsOf l dC dI r_23 ln b_ln) (va_cwS 2 hts gX9_sums__X0_kindsOf_S133 rfl rfl rfl hd_yX0_kindsOf.2 ⟨lel 2 3 rfl, lel 46 66 rfl⟩) ⟨pn_fb, pn_use⟩ rfl rfl hl.1 rfl (lv_room (Nat.le_of_ble_eq_true rfl)) dX9_sums_126 ⟨lel 0 0 rfl, lel 0 0 rfl⟩) (fun r_38 h_r_38 => ?_)
      have b_r_38 := h_r_38
      have b_r_38 : (0 : Int) ≤ r_38.toInt ∧ r_38.toInt ≤ 63 := b_r_38
      exact W.iret (v := r_38) hx hb hr (fun t ht hW => ⟨r_38, rfl, (rg_w b_r_38 (by decide) (by decide)), ht⟩) t_nil dX9_sums_129
  ·
    have n_c_21 : (r_20.toInt : Int) = 0 := c_eq rfl (by decide) c_21
    have b_r_20 : (0 : Int) ≤ r_20.toInt ∧ r_20.toInt ≤ 0 := r_eq1 b_r_20 (by decide : (0 : Int) ≤ (0 : Int32).toInt ∧ (0 : Int32).toInt ≤ 0) n_c_21 (by decide)
    refine lv_bipush (v := (-2)) hx hb dX9_sums_11 (by decide) ?_
    exact W.iret (v := (-2)) hx hb hr (fun t ht hW => ⟨(-2), rfl, (rg_w (by decide : (-2 : Int) ≤ ((-2) : Int32).toInt ∧ ((-2) : Int32).toInt ≤ -2) (by decide) (by decide)), ht⟩) t_nil dX9_sums_13
theorem dX9_lucky_0 : decode cX9_lucky 0 = .ok (.aload_n 0, 1) := by decide +kernel
theorem dX9_lucky_1 : decode cX9_lucky 1 = .ok (.iload_n 1, 1) := by decide +kernel
theorem dX9_lucky_2 : decode cX9_lucky 2 = .ok (.iload_n 2, 1) := by decide +kernel
theorem dX9_lucky_3 : decode cX9_lucky 3 = .ok (.invokevirtual 137, 3) := by decide +kernel
theorem dX9_lucky_6 : decode cX9_lucky 6 = .ok (.ifCond .eq 15, 3) := by decide +kernel
theorem dX9_lucky_9 : decode cX9_lucky 9 = .ok (.aload_n 0, 1) := by decide +kernel
theorem dX9_lucky_10 : decode cX9_lucky 10 = .ok (.getfield 35, 3) := by decide +kernel
theorem dX9_lucky_13 : decode cX9_lucky 13 = .ok (.iload_n 1, 1) := by decide +kernel
theorem dX9_lucky_14 : decode cX9_lucky 14 = .ok (.iload_n 2, 1) := by decide +kernel
theorem dX9_lucky_15 : decode cX9_lucky 15 = .ok (.invokevirtual 141, 3) := by decide +kernel
theorem dX9_lucky_18 : decode cX9_lucky 18 = .ok (.goto 5, 3) := by decide +kernel
theorem dX9_lucky_21 : decode cX9_lucky 21 = .ok (.bipush (-2), 2) := by decide +kernel
theorem dX9_lucky_23 : decode cX9_lucky 23 = .ok (.ireturn, 1) := by decide +kernel
theorem hd_yX9_lucky : yX9_lucky.cls = RX9 ∧ yX9_lucky.cls ≠ "java/lang/invoke/MethodHandle" ∧ yX9_lucky.cls ≠ "java/lang/invoke/VarHandle" ∧ (parseMethodDescriptor yX9_lucky.desc).map (fun d => d.parameters.length) = some 2 := by decide +kernel
def uX9_lucky : List Cond := List.cons (.code yX9_lucky cX9_lucky 3 (some .int)) (HAppend.hAppend ([.methodLink RX9 137 yX9_hasBoth, .instanceMethod yX9_hasBoth, .selects RX9 yX9_hasBoth yX9_hasBoth, .initialized RX9, .fieldLink RX9 35 "LuckyTicket" "current" "LLuckyTicket$Roll;", .methodLink RX9 141 yX2_luckBit, .instanceMethod yX2_luckBit, .selects RX2 yX2_luckBit yX2_luckBit, .initialized RX2] : List Cond) (HAppend.hAppend uX9_hasBoth (HAppend.hAppend uX2_luckBit wsX90)))
theorem iX9_lucky_X9 : ∀ w ∈ wsX90, w ∈ uX9_lucky := fun _ h => (List.mem_cons_of_mem _ (List.mem_append_right _ (List.mem_append_right _ (List.mem_append_right _ h))))
theorem guX9_lucky : GU uX9_lucky := gu_cons (gu_app (by decide +kernel) (gu_ap guX9_hasBoth (gu_ap guX2_luckBit gws_X9)))
theorem gX9_lucky__X9_hasBoth_V137 : GoodIn uX9_lucky (wsV RX9 137 RX9 yX9_hasBoth uX9_hasBoth) := gin_V (List.mem_of_getElem? (i := 1) rfl) (List.mem_of_getElem? (i := 2) rfl) (List.mem_of_getElem? (i := 3) rfl) (List.mem_of_getElem? (i := 4) rfl) (fun _ h => (List.mem_cons_of_mem _ (List.mem_append_right _ (List.mem_append_left _ h)))) guX9_hasBoth
theorem gX9_lucky__X2_luckBit_V141 : GoodIn uX9_lucky (wsV RX9 141 RX2 yX2_luckBit uX2_luckBit) := gin_V (List.mem_of_getElem? (i := 6) rfl) (List.mem_of_getElem? (i := 7) rfl) (List.mem_of_getElem? (i := 8) rfl) (List.mem_of_getElem? (i := 9) rfl) (fun _ h => (List.mem_cons_of_mem _ (List.mem_append_right _ (List.mem_append_right _ (List.mem_append_left _ h))))) guX2_luckBit
set_option maxHeartbeats 4000000 in
set_option maxRecDepth 100000 in
theorem kX9_lucky (l : Launch) (dC : Nat → ClassId) (dI : Nat → Nat → Nat) (h0 : Nat) (tp : Nat) (sc : Nat) (rd : Nat) (cu : Nat) (im : Nat) (ig : Nat) (sl : Nat) (se : Nat) (sm : Nat) (fc : Nat) (ln : Int32) (bs : Int32) (tk : Int32) (lw : Int32) (li : Int32) (fa : Nat) (lu : Nat) (cL : ClassId) (nl : Nat) (fl : Nat → Int32) (a1 : Int32) (a2 : Int32) (b_ln : (0 : Int) ≤ ln.toInt ∧ ln.toInt ≤ 12) (b_bs : (0 : Int) ≤ bs.toInt ∧ bs.toInt ≤ 16) (b_tk : (0 : Int) ≤ tk.toInt ∧ tk.toInt ≤ 20000) (b_lw : (0 : Int) ≤ lw.toInt ∧ lw.toInt ≤ 9) (hl1 : tk.toInt ≤ (nl : Int)) : Met l yX9_lucky uX9_lucky ({ frames := 2, cells := 0, slots := 0, locals := 43 }) (va_Pc [.ref h0, .int a1, .int a2] (pw (dC, dI) vwCl [(h0, .inr (7, [.ref tp, .ref sc, .ref rd, .ref cu, .ref im, .ref ig, .ref sl, .ref se, .ref sm, .ref fc])), (cu, .inr (1, [.int ln, .int bs, .int tk, .int lw, .int li, .ref fa, .ref lu])), (lu, .inl (cL, nl, .inl fl))] [(cL, .int)])) (vp_Si (fun r => ((-2 : Int) ≤ r.toInt ∧ r.toInt ≤ 1))) 0 0 (fun _ => False) := by
  refine Met.ofW (cc := cX9_lucky) (maxL := 3) (ret := (some .int)) pn_X9 rfl ?_
  intro p e s m args below meth c s₁ B hml hv
  obtain ⟨rfl, hP, hK, hN⟩ := hv
  have hx := B.exec
  have hb := B.bytes
  have hr := B.returns
  have hts := atoms_spec (ws := uX9_lucky) B.pre
  have hown : s.vm.findClass RX9 = some m.cls := hown_of B.named rfl
  have hlocks := B.notSynchronized
  have hl := lv_entry ([.ref h0, .int a1, .int a2]) (n := 3) (Nat.le_of_ble_eq_true rfl)
  rw [lg_entry_eq]
  generalize (lg_sl ([.ref h0, .int a1, .int a2]) ++ List.replicate (3 - (lg_sl ([.ref h0, .int a1, .int a2])).length) Slot.unset).toArray = ls at hl ⊢
  have hl : lv_has ls 3 [(0, .ref h0), (1, .int a1), (2, .int a2)] := hl
  refine lv_aload_n hx hb dX9_lucky_0 rfl (lv_at hl 0 rfl) ?_
  refine lv_iload_n hx hb dX9_lucky_1 rfl (lv_at hl 1 rfl) ?_
  refine lv_iload_n hx hb dX9_lucky_2 rfl (lv_at hl 2 rfl) ?_
  refine vp_callSi (W.runV (As := [.int a1, .int a2]) (rest := []) ⟨hx, hb, hml, hown, hts⟩ (kX9_hasBoth l dC dI h0 tp sc rd cu im ig sl se sm fc ln bs tk lw li fa lu a1 a2 b_ln b_bs b_tk b_lw) (cwV 2 hts gX9_lucky__X9_hasBoth_V137 rfl rfl rfl hd_yX9_hasBoth ⟨lel 2 2 rfl, lel 43 43 rfl⟩) ⟨pw_fb, rcv_X9 hK hP (q0 := 0) rfl, (pw_use hP hK hN [0, 1] rfl [] rfl)⟩ rfl rfl hl.1 rfl (lv_room (Nat.le_of_ble_eq_true rfl)) dX9_lucky_3 ⟨lel 0 0 rfl, lel 0 0 rfl⟩) (fun r_5 h_r_5 => ?_)
  obtain ⟨b_r_5, nz_r_5⟩ := h_r_5
  have b_r_5 : (0 : Int) ≤ r_5.toInt ∧ r_5.toInt ≤ 1 := b_r_5
  refine lv_if_eq (tgt := 21) hx hb dX9_lucky_6 (by decide) (fun c_6 => ?_) (fun c_6 => ?_)
  ·
    have n_c_6 : (r_5.toInt : Int) = 0 := c_eq rfl (by decide) c_6
    have b_r_5 : (0 : Int) ≤ r_5.toInt ∧ r_5.toInt ≤ 0 := r_eq1 b_r_5 (by decide : (0 : Int) ≤ (0 : Int32).toInt ∧ (0 : Int32).toInt ≤ 0) n_c_6 (by decide)
    refine lv_bipush (v := (-2)) hx hb dX9_lucky_21 (by decide) ?_
    exact W.iret (v := (-2)) hx hb hr (fun t ht hW => ⟨(-2), rfl, (rg_w (by decide : (-2 : Int) ≤ ((-2) : Int32).toInt ∧ ((-2) : Int32).toInt ≤ -2) (by decide) (by decide)), ht⟩) t_nil dX9_lucky_23
  ·
    have n_c_6 : (r_5.toInt : Int) ≠ 0 := c_ne rfl (by decide) c_6
    have b_r_5 : (1 : Int) ≤ r_5.toInt ∧ r_5.toInt ≤ 1 := r_ne1 b_r_5 (by decide : (0 : Int) ≤ (0 : Int32).toInt ∧ (0 : Int32).toInt ≤ 0) n_c_6 (by decide)
    obtain ⟨b_a1, b_a2, g_7⟩ := nz_r_5 c_6
    refine lv_aload_n hx hb dX9_lucky_9 rfl (lv_at hl 0 rfl) ?_
    refine va_get (D := (dC, dI)) (ci := 7) (v := .ref cu) (C := RX9) (T := TX9) (N := 10) hx hb hts iX9_lucky_X9 hown hK hP 0 rfl rfl 3 (by decide) (hts (.fieldLink RX9 35 "LuckyTicket" "current" "LLuckyTicket$Roll;") (List.mem_of_getElem? (i := 5) rfl)) (fun _ h9 => h9) rfl dX9_lucky_10 ?_
    refine lv_iload_n hx hb dX9_lucky_13 rfl (lv_at hl 1 rfl) ?_
    refine lv_iload_n hx hb dX9_lucky_14 rfl (lv_at hl 2 rfl) ?_
    refine vp_callSi (W.runV (As := [.int a1, .int a2]) (rest := []) ⟨hx, hb, hml, hown, hts⟩ (kX2_luckBit l dC dI cu ln bs tk lw li fa lu cL nl fl a1 a2 b_ln b_bs b_tk b_lw (by omega)) (cwV 2 hts gX9_lucky__X2_luckBit_V141 rfl rfl rfl hd_yX2_luckBit ⟨lel 2 2 rfl, lel 43 43 rfl⟩) ⟨pw_fb, rcv_X2 hK hP (q0 := 1) rfl, (pw_use hP hK hN [1, 2] rfl [0] rfl)⟩ rfl rfl hl.1 rfl (lv_room (Nat.le_of_ble_eq_true rfl)) dX9_lucky_15 ⟨lel 0 0 rfl, lel 0 0 rfl⟩) (fun r_8 h_r_8 => ?_)
    have b_r_8 := h_r_8
    have b_r_8 : (0 : Int) ≤ r_8.toInt ∧ r_8.toInt ≤ 1 := b_r_8
    refine lv_goto (tgt := 23) hx hb dX9_lucky_18 (by decide) ?_
    exact W.iret (v := r_8) hx hb hr (fun t ht hW => ⟨r_8, rfl, (rg_w b_r_8 (by decide) (by decide)), ht⟩) t_nil dX9_lucky_23
theorem dX9_laws_0 : decode cX9_laws 0 = .ok (.aload_n 0, 1) := by decide +kernel
theorem dX9_laws_1 : decode cX9_laws 1 = .ok (.getfield 35, 3) := by decide +kernel
theorem dX9_laws_4 : decode cX9_laws 4 = .ok (.iload_n 1, 1) := by decide +kernel
theorem dX9_laws_5 : decode cX9_laws 5 = .ok (.invokevirtual 100, 3) := by decide +kernel
theorem dX9_laws_8 : decode cX9_laws 8 = .ok (.ifCond .eq 14, 3) := by decide +kernel
theorem dX9_laws_11 : decode cX9_laws 11 = .ok (.aload_n 0, 1) := by decide +kernel
theorem dX9_laws_12 : decode cX9_laws 12 = .ok (.getfield 35, 3) := by decide +kernel
theorem dX9_laws_15 : decode cX9_laws 15 = .ok (.iload_n 1, 1) := by decide +kernel
theorem dX9_laws_16 : decode cX9_laws 16 = .ok (.invokevirtual 145, 3) := by decide +kernel
theorem dX9_laws_19 : decode cX9_laws 19 = .ok (.goto 5, 3) := by decide +kernel
theorem dX9_laws_22 : decode cX9_laws 22 = .ok (.bipush (-2), 2) := by decide +kernel
theorem dX9_laws_24 : decode cX9_laws 24 = .ok (.ireturn, 1) := by decide +kernel
theorem hd_yX9_laws : yX9_laws.cls = RX9 ∧ yX9_laws.cls ≠ "java/lang/invoke/MethodHandle" ∧ yX9_laws.cls ≠ "java/lang/invoke/VarHandle" ∧ (parseMethodDescriptor yX9_laws.desc).map (fun d => d.parameters.length) = some 1 := by decide +kernel
def uX9_laws : List Cond := List.cons (.code yX9_laws cX9_laws 2 (some .int)) (HAppend.hAppend ([.fieldLink RX9 35 "LuckyTicket" "current" "LLuckyTicket$Roll;", .methodLink RX9 100 yX2_hasTicket, .instanceMethod yX2_hasTicket, .selects RX2 yX2_hasTicket yX2_hasTicket, .initialized RX2, .methodLink RX9 145 yX2_luckOf, .instanceMethod yX2_luckOf, .selects RX2 yX2_luckOf yX2_luckOf] : List Cond) (HAppend.hAppend uX2_hasTicket (HAppend.hAppend uX2_luckOf wsX90)))
theorem iX9_laws_X9 : ∀ w ∈ wsX90, w ∈ uX9_laws := fun _ h => (List.mem_cons_of_mem _ (List.mem_append_right _ (List.mem_append_right _ (List.mem_append_right _ h))))
theorem guX9_laws : GU uX9_laws := gu_cons (gu_app (by decide +kernel) (gu_ap guX2_hasTicket (gu_ap guX2_luckOf gws_X9)))
theorem gX9_laws__X2_hasTicket_V100 : GoodIn uX9_laws (wsV RX9 100 RX2 yX2_hasTicket uX2_hasTicket) := gin_V (List.mem_of_getElem? (i := 2) rfl) (List.mem_of_getElem? (i := 3) rfl) (List.mem_of_getElem? (i := 4) rfl) (List.mem_of_getElem? (i := 5) rfl) (fun _ h => (List.mem_cons_of_mem _ (List.mem_append_right _ (List.mem_append_left _ h)))) guX2_hasTicket
theorem gX9_laws__X2_luckOf_V145 : GoodIn uX9_laws (wsV RX9 145 RX2 yX2_luckOf uX2_luckOf) := gin_V (List.mem_of_getElem? (i := 6) rfl) (List.mem_of_getElem? (i := 7) rfl) (List.mem_of_getElem? (i := 8) rfl) (List.mem_of_getElem? (i := 5) rfl) (fun _ h => (List.mem_cons_of_mem _ (List.mem_append_right _ (List.mem_append_right _ (List.mem_append_left _ h))))) guX2_luckOf
set_option maxHeartbeats 4000000 in
set_option maxRecDepth 100000 in
theorem kX9_laws (l : Launch) (dC : Nat → ClassId) (dI : Nat → Nat → Nat) (h0 : Nat) (tp : Nat) (sc : Nat) (rd : Nat) (cu : Nat) (im : Nat) (ig : Nat) (sl : Nat) (se : Nat) (sm : Nat) (fc : Nat) (ln : Int32) (bs : Int32) (tk : Int32) (lw : Int32) (li : Int32) (fa : Nat) (lu : Nat) (cL : ClassId) (nl : Nat) (fl : Nat → Int32) (a1 : Int32) (b_ln : (0 : Int) ≤ ln.toInt ∧ ln.toInt ≤ 12) (b_bs : (0 : Int) ≤ bs.toInt ∧ bs.toInt ≤ 16) (b_tk : (0 : Int) ≤ tk.toInt ∧ tk.toInt ≤ 20000) (b_lw : (0 : Int) ≤ lw.toInt ∧ lw.toInt ≤ 9) (hl1 : tk.toInt ≤ (nl : Int)) : Met l yX9_laws uX9_laws ({ frames := 2, cells := 0, slots := 0, locals := 42 }) (va_Pc [.ref h0, .int a1] (pw (dC, dI) vwCl [(h0, .inr (7, [.ref tp, .ref sc, .ref rd, .ref cu, .ref im, .ref ig, .ref sl, .ref se, .ref sm, .ref fc])), (cu, .inr (1, [.int ln, .int bs, .int tk, .int lw, .int li, .ref fa, .ref lu])), (lu, .inl (cL, nl, .inl fl))] [(cL, .int)])) (vp_Si (fun r => True)) 0 0 (fun _ => False) := by
  refine Met.ofW (cc := cX9_laws) (maxL := 2) (ret := (some .int)) pn_X9 rfl ?_
  intro p e s m args below meth c s₁ B hml hv
  obtain ⟨rfl, hP, hK, hN⟩ := hv
  have hx := B.exec
  have hb := B.bytes
  have hr := B.returns
  have hts := atoms_spec (ws := uX9_laws) B.pre
  have hown : s.vm.findClass RX9 = some m.cls := hown_of B.named rfl
  have hlocks := B.notSynchronized
  have hl := lv_entry ([.ref h0, .int a1]) (n := 2) (Nat.le_of_ble_eq_true rfl)
  rw [lg_entry_eq]
  generalize (lg_sl ([.ref h0, .int a1]) ++ List.replicate (2 - (lg_sl ([.ref h0, .int a1])).length) Slot.unset).toArray = ls at hl ⊢
  have hl : lv_has ls 2 [(0, .ref h0), (1, .int a1)] := hl
  refine lv_aload_n hx hb dX9_laws_0 rfl (lv_at hl 0 rfl) ?_
  refine va_get (D := (dC, dI)) (ci := 7) (v := .ref cu) (C := RX9) (T := TX9) (N := 10) hx hb hts iX9_laws_X9 hown hK hP 0 rfl rfl 3 (by decide) (hts (.fieldLink RX9 35 "LuckyTicket" "current" "LLuckyTicket$Roll;") (List.mem_of_getElem? (i := 1) rfl)) (fun _ h9 => h9) rfl dX9_laws_1 ?_
  refine lv_iload_n hx hb dX9_laws_4 rfl (lv_at hl 1 rfl) ?_
  refine vp_callSi (W.runV (As := [.int a1]) (rest := []) ⟨hx, hb, hml, hown, hts⟩ (kX2_hasTicket l dC dI cu ln bs tk lw li fa lu a1 b_ln b_bs b_tk b_lw) (cwV 1 hts gX9_laws__X2_hasTicket_V100 rfl rfl rfl hd_yX2_hasTicket ⟨lel 1 2 rfl, lel 21 42 rfl⟩) ⟨pw_fb, rcv_X2 hK hP (q0 := 1) rfl, (pw_use hP hK hN [1] rfl [] rfl)⟩ rfl rfl hl.1 rfl (lv_room (Nat.le_of_ble_eq_true rfl)) dX9_laws_5 ⟨lel 0 0 rfl, lel 0 0 rfl⟩) (fun r_5 h_r_5 => ?_)
  obtain ⟨b_r_5, nz_r_5⟩ := h_r_5
  have b_r_5 : (0 : Int) ≤ r_5.toInt ∧ r_5.toInt ≤ 1 := b_r_5
  refine lv_if_eq (tgt := 22) hx hb dX9_laws_8 (by decide) (fun c_6 => ?_) (fun c_6 => ?_)
  ·
    have n_c_6 : (r_5.toInt : Int) = 0 := c_eq rfl (by decide) c_6
    have b_r_5 : (0 : Int) ≤ r_5.toInt ∧ r_5.toInt ≤ 0 := r_eq1 b_r_5 (by decide : (0 : Int) ≤ (0 : Int32).toInt ∧ (0 : Int32).toInt ≤ 0) n_c_6 (by decide)
    refine lv_bipush (v := (-2)) hx hb dX9_laws_22 (by decide) ?_
    exact W.iret (v := (-2)) hx hb hr (fun t ht hW => ⟨(-2), rfl, trivial, ht⟩) t_nil dX9_laws_24
  ·
    have n_c_6 : (r_5.toInt : Int) ≠ 0 := c_ne rfl (by decide) c_6
    have b_r_5 : (1 : Int) ≤ r_5.toInt ∧ r_5.toInt ≤ 1 := r_ne1 b_r_5 (by decide : (0 : Int) ≤ (0 : Int32).toInt ∧ (0 : Int32).toInt ≤ 0) n_c_6 (by decide)
    obtain ⟨b_a1, g_7⟩ := nz_r_5 c_6
    refine lv_aload_n hx hb dX9_laws_11 rfl (lv_at hl 0 rfl) ?_
    refine va_get (D := (dC, dI)) (ci := 7) (v := .ref cu) (C := RX9) (T := TX9) (N := 10) hx hb hts iX9_laws_X9 hown hK hP 0 rfl rfl 3 (by decide) (hts (.fieldLink RX9 35 "LuckyTicket" "current" "LLuckyTicket$Roll;") (List.mem_of_getElem? (i := 1) rfl)) (fun _ h9 => h9) rfl dX9_laws_12 ?_
    refine lv_iload_n hx hb dX9_laws_15 rfl (lv_at hl 1 rfl) ?_
    refine vp_callSi (W.runV (As := [.int a1]) (rest := []) ⟨hx, hb, hml, hown, hts⟩ (kX2_luckOf l dC dI cu ln bs tk lw li fa lu cL nl fl a1 b_ln b_bs b_tk b_lw (by omega)) (cwV 1 hts gX9_laws__X2_luckOf_V145 rfl rfl rfl hd_yX2_luckOf ⟨lel 2 2 rfl, lel 42 42 rfl⟩) ⟨pw_fb, rcv_X2 hK hP (q0 := 1) rfl, (pw_use hP hK hN [1, 2] rfl [0] rfl)⟩ rfl rfl hl.1 rfl (lv_room (Nat.le_of_ble_eq_true rfl)) dX9_laws_16 ⟨lel 0 0 rfl, lel 0 0 rfl⟩) (fun r_8 h_r_8 => ?_)
    refine lv_goto (tgt := 24) hx hb dX9_laws_19 (by decide) ?_
    exact W.iret (v := r_8) hx hb hr (fun t ht hW => ⟨r_8, rfl, trivial, ht⟩) t_nil dX9_laws_24
theorem dX9_many_0 : decode cX9_many 0 = .ok (.aload_n 0, 1) := by decide +kernel
theorem dX9_many_1 : decode cX9_many 1 = .ok (.getfield 35, 3) := by decide +kernel
theorem dX9_many_4 : decode cX9_many 4 = .ok (.iload_n 1, 1) := by decide +kernel
theorem dX9_many_5 : decode cX9_many 5 = .ok (.invokevirtual 149, 3) := by decide +kernel
theorem dX9_many_8 : decode cX9_many 8 = .ok (.ifCond .eq 14, 3) := by decide +kernel
theorem dX9_many_11 : decode cX9_many 11 = .ok (.aload_n 0, 1) := by decide +kernel
theorem dX9_many_12 : decode cX9_many 12 = .ok (.getfield 35, 3) := by decide +kernel
theorem dX9_many_15 : decode cX9_many 15 = .ok (.iload_n 1, 1) := by decide +kernel
theorem dX9_many_16 : decode cX9_many 16 = .ok (.invokevirtual 152, 3) := by decide +kernel
theorem dX9_many_19 : decode cX9_many 19 = .ok (.goto 5, 3) := by decide +kernel
theorem dX9_many_22 : decode cX9_many 22 = .ok (.bipush (-2), 2) := by decide +kernel
theorem dX9_many_24 : decode cX9_many 24 = .ok (.ireturn, 1) := by decide +kernel
theorem hd_yX9_many : yX9_many.cls = RX9 ∧ yX9_many.cls ≠ "java/lang/invoke/MethodHandle" ∧ yX9_many.cls ≠ "java/lang/invoke/VarHandle" ∧ (parseMethodDescriptor yX9_many.desc).map (fun d => d.parameters.length) = some 1 := by decide +kernel
def uX9_many : List Cond := List.cons (.code yX9_many cX9_many 2 (some .int)) (HAppend.hAppend ([.fieldLink RX9 35 "LuckyTicket" "current" "LLuckyTicket$Roll;", .methodLink RX9 149 yX2_hasLaw, .instanceMethod yX2_hasLaw, .selects RX2 yX2_hasLaw yX2_hasLaw, .initialized RX2, .methodLink RX9 152 yX2_total, .instanceMethod yX2_total, .selects RX2 yX2_total yX2_total] : List Cond) (HAppend.hAppend uX2_hasLaw (HAppend.hAppend uX2_total wsX90)))
theorem iX9_many_X9 : ∀ w ∈ wsX90, w ∈ uX9_many := fun _ h => (List.mem_cons_of_mem _ (List.mem_append_right _ (List.mem_append_right _ (List.mem_append_right _ h))))
theorem guX9_many : GU uX9_many := gu_cons (gu_app (by decide +kernel) (gu_ap guX2_hasLaw (gu_ap guX2_total gws_X9)))
theorem gX9_many__X2_hasLaw_V149 : GoodIn uX9_many (wsV RX9 149 RX2 yX2_hasLaw uX2_hasLaw) := gin_V (List.mem_of_getElem? (i := 2) rfl) (List.mem_of_getElem? (i := 3) rfl) (List.mem_of_getElem? (i := 4) rfl) (List.mem_of_getElem? (i := 5) rfl) (fun _ h => (List.mem_cons_of_mem _ (List.mem_append_right _ (List.mem_append_left _ h)))) guX2_hasLaw
theorem gX9_many__X2_total_V152 : GoodIn uX9_many (wsV RX9 152 RX2 yX2_total uX2_total) := gin_V (List.mem_of_getElem? (i := 6) rfl) (List.mem_of_getElem? (i := 7) rfl) (List.mem_of_getElem? (i := 8) rfl) (List.mem_of_getElem? (i := 5) rfl) (fun _ h => (List.mem_cons_of_mem _ (List.mem_append_right _ (List.mem_append_right _ (List.mem_append_left _ h))))) guX2_total
set_option maxHeartbeats 4000000 in
set_option maxRecDepth 100000 in
theorem kX9_many (l : Launch) (dC : Nat → ClassId) (dI : Nat → Nat → Nat) (h0 : Nat) (tp : Nat) (sc : Nat) (rd : Nat) (cu : Nat) (im : Nat) (ig : Nat) (sl : Nat) (se : Nat) (sm : Nat) (fc : Nat) (ln : Int32) (bs : Int32) (tk : Int32) (lw : Int32) (li : Int32) (fa : Nat) (lu : Nat) (cL : ClassId) (nl : Nat) (fl : Nat → Int32) (a1 : Int32) (b_ln : (0 : Int) ≤ ln.toInt ∧ ln.toInt ≤ 12) (b_bs : (0 : Int) ≤ bs.toInt ∧ bs.toInt ≤ 16) (b_tk : (0 : Int) ≤ tk.toInt ∧ tk.toInt ≤ 20000) (b_lw : (0 : Int) ≤ lw.toInt ∧ lw.toInt ≤ 9) (hl1 : tk.toInt ≤ (nl : Int)) : Met l yX9_many uX9_many ({ frames := 3, cells := 0, slots := 0, locals := 60 }) (va_Pc [.ref h0, .int a1] (pw (dC, dI) vwCl [(h0, .inr (7, [.ref tp, .ref sc, .ref rd, .ref cu, .ref im, .ref ig, .ref sl, .ref se, .ref sm, .ref fc])), (cu, .inr (1, [.int ln, .int bs, .int tk, .int lw, .int li, .ref fa, .ref lu])), (lu, .inl (cL, nl, .inl fl))] [(cL, .int)])) (vp_Si (fun r => True)) 0 0 (fun _ => False) := by
  refine Met.ofW (cc := cX9_many) (maxL := 2) (ret := (some .int)) pn_X9 rfl ?_
  intro p e s m args below meth c s₁ B hml hv
  obtain ⟨rfl, hP, hK, hN⟩ := hv
  have hx := B.exec
  have hb := B.bytes
  have hr := B.returns
  have hts := atoms_spec (ws := uX9_many) B.pre
  have hown : s.vm.findClass RX9 = some m.cls := hown_of B.named rfl
  have hlocks := B.notSynchronized
  have hl := lv_entry ([.ref h0, .int a1]) (n := 2) (Nat.le_of_ble_eq_true rfl)
  rw [lg_entry_eq]
  generalize (lg_sl ([.ref h0, .int a1]) ++ List.replicate (2 - (lg_sl ([.ref h0, .int a1])).length) Slot.unset).toArray = ls at hl ⊢
  have hl : lv_has ls 2 [(0, .ref h0), (1, .int a1)] := hl
  refine lv_aload_n hx hb dX9_many_0 rfl (lv_at hl 0 rfl) ?_
  refine va_get (D := (dC, dI)) (ci := 7) (v := .ref cu) (C := RX9) (T := TX9) (N := 10) hx hb hts iX9_many_X9 hown hK hP 0 rfl rfl 3 (by decide) (hts (.fieldLink RX9 35 "LuckyTicket" "current" "LLuckyTicket$Roll;") (List.mem_of_getElem? (i := 1) rfl)) (fun _ h9 => h9) rfl dX9_many_1 ?_
  refine lv_iload_n hx hb dX9_many_4 rfl (lv_at hl 1 rfl) ?_
  refine vp_callSi (W.runV (As := [.int a1]) (rest := []) ⟨hx, hb, hml, hown, hts⟩ (kX2_hasLaw l dC dI cu ln bs tk lw li fa lu a1 b_ln b_bs b_tk b_lw) (cwV 1 hts gX9_many__X2_hasLaw_V149 rfl rfl rfl hd_yX2_hasLaw ⟨lel 1 3 rfl, lel 21 60 rfl⟩) ⟨pw_fb, rcv_X2 hK hP (q0 := 1) rfl, (pw_use hP hK hN [1] rfl [] rfl)⟩ rfl rfl hl.1 rfl (lv_room (Nat.le_of_ble_eq_true rfl)) dX9_many_5 ⟨lel 0 0 rfl, lel 0 0 rfl⟩) (fun r_5 h_r_5 => ?_)
  obtain ⟨b_r_5, nz_r_5⟩ := h_r_5
  have b_r_5 : (0 : Int) ≤ r_5.toInt ∧ r_5.toInt ≤ 1 := b_r_5
  refine lv_if_eq (tgt := 22) hx hb dX9_many_8 (by decide) (fun c_6 => ?_) (fun c_6 => ?_)
  ·
    have n_c_6 : (r_5.toInt : Int) = 0 := c_eq rfl (by decide) c_6
    have b_r_5 : (0 : Int) ≤ r_5.toInt ∧ r_5.toInt ≤ 0 := r_eq1 b_r_5 (by decide : (0 : Int) ≤ (0 : Int32).toInt ∧ (0 : Int32).toInt ≤ 0) n_c_6 (by decide)
    refine lv_bipush (v := (-2)) hx hb dX9_many_22 (by decide) ?_
    exact W.iret (v := (-2)) hx hb hr (fun t ht hW => ⟨(-2), rfl, trivial, ht⟩) t_nil dX9_many_24
  ·
    have n_c_6 : (r_5.toInt : Int) ≠ 0 := c_ne rfl (by decide) c_6
    have b_r_5 : (1 : Int) ≤ r_5.toInt ∧ r_5.toInt ≤ 1 := r_ne1 b_r_5 (by decide : (0 : Int) ≤ (0 : Int32).toInt ∧ (0 : Int32).toInt ≤ 0) n_c_6 (by decide)
    obtain ⟨b_a1, g_7⟩ := nz_r_5 c_6
    refine lv_aload_n hx hb dX9_many_11 rfl (lv_at hl 0 rfl) ?_
    refine va_get (D := (dC, dI)) (ci := 7) (v := .ref cu) (C := RX9) (T := TX9) (N := 10) hx hb hts iX9_many_X9 hown hK hP 0 rfl rfl 3 (by decide) (hts (.fieldLink RX9 35 "LuckyTicket" "current" "LLuckyTicket$Roll;") (List.mem_of_getElem? (i := 1) rfl)) (fun _ h9 => h9) rfl dX9_many_12 ?_
    refine lv_iload_n hx hb dX9_many_15 rfl (lv_at hl 1 rfl) ?_
    refine vp_callSi (W.runV (As := [.int a1]) (rest := []) ⟨hx, hb, hml, hown, hts⟩ (kX2_total l dC dI cu ln bs tk lw li fa lu cL nl fl a1 b_ln b_bs b_tk b_lw (by omega)) (cwV 1 hts gX9_many__X2_total_V152 rfl rfl rfl hd_yX2_total ⟨lel 3 3 rfl, lel 60 60 rfl⟩) ⟨pw_fb, rcv_X2 hK hP (q0 := 1) rfl, (pw_use hP hK hN [1, 2] rfl [0] rfl)⟩ rfl rfl hl.1 rfl (lv_room (Nat.le_of_ble_eq_true rfl)) dX9_many_16 ⟨lel 0 0 rfl, lel 0 0 rfl⟩) (fun r_8 h_r_8 => ?_)
    refine lv_goto (tgt := 24) hx hb dX9_many_19 (by decide) ?_
    exact W.iret (v := r_8) hx hb hr (fun t ht hW => ⟨r_8, rfl, trivial, ht⟩) t_nil dX9_many_24
theorem dX9_rank_0 : decode cX9_rank 0 = .ok (.aload_n 0, 1) := by decide +kernel
theorem dX9_rank_1 : decode cX9_rank 1 = .ok (.getfield 35, 3) := by decide +kernel
theorem dX9_rank_4 : decode cX9_rank 4 = .ok (.iload_n 1, 1) := by decide +kernel
theorem dX9_rank_5 : decode cX9_rank 5 = .ok (.invokevirtual 149, 3) := by decide +kernel
theorem dX9_rank_8 : decode cX9_rank 8 = .ok (.ifCond .eq 18, 3) := by decide +kernel
theorem dX9_rank_11 : decode cX9_rank 11 = .ok (.iload_n 2, 1) := by decide +kernel
theorem dX9_rank_12 : decode cX9_rank 12 = .ok (.iconst 0, 1) := by decide +kernel
theorem dX9_rank_13 : decode cX9_rank 13 = .ok (.aload_n 0, 1) := by decide +kernel
theorem dX9_rank_14 : decode cX9_rank 14 = .ok (.getfield 35, 3) := by decide +kernel
theorem dX9_rank_17 : decode cX9_rank 17 = .ok (.getfield 155, 3) := by decide +kernel
theorem dX9_rank_20 : decode cX9_rank 20 = .ok (.invokestatic 158, 3) := by decide +kernel
theorem dX9_rank_23 : decode cX9_rank 23 = .ok (.ifCond .ne 6, 3) := by decide +kernel
theorem dX9_rank_26 : decode cX9_rank 26 = .ok (.bipush (-2), 2) := by decide +kernel
theorem dX9_rank_28 : decode cX9_rank 28 = .ok (.ireturn, 1) := by decide +kernel
theorem dX9_rank_29 : decode cX9_rank 29 = .ok (.aload_n 0, 1) := by decide +kernel
theorem dX9_rank_30 : decode cX9_rank 30 = .ok (.getfield 35, 3) := by decide +kernel
theorem dX9_rank_33 : decode cX9_rank 33 = .ok (.iload_n 1, 1) := by decide +kernel
theorem dX9_rank_34 : decode cX9_rank 34 = .ok (.iconst 0, 1) := by decide +kernel
theorem dX9_rank_35 : decode cX9_rank 35 = .ok (.iload_n 2, 1) := by decide +kernel
theorem dX9_rank_36 : decode cX9_rank 36 = .ok (.invokevirtual 162, 3) := by decide +kernel
theorem dX9_rank_39 : decode cX9_rank 39 = .ok (.ireturn, 1) := by decide +kernel
theorem hd_yX9_rank : yX9_rank.cls = RX9 ∧ yX9_rank.cls ≠ "java/lang/invoke/MethodHandle" ∧ yX9_rank.cls ≠ "java/lang/invoke/VarHandle" ∧ (parseMethodDescriptor yX9_rank.desc).map (fun d => d.parameters.length) = some 2 := by decide +kernel
def uX9_rank : List Cond := List.cons (.code yX9_rank cX9_rank 3 (some .int)) (HAppend.hAppend ([.fieldLink RX9 35 "LuckyTicket" "current" "LLuckyTicket$Roll;", .methodLink RX9 149 yX2_hasLaw, .instanceMethod yX2_hasLaw, .selects RX2 yX2_hasLaw yX2_hasLaw, .initialized RX2, .methodLink RX9 158 yX9_isWithin, .static yX9_isWithin, .initialized RX9, .methodLink RX9 162 yX2_tally, .instanceMethod yX2_tally, .selects RX2 yX2_tally yX2_tally] : List Cond) (HAppend.hAppend uX2_hasLaw (HAppend.hAppend uX9_isWithin (HAppend.hAppend uX2_tally (HAppend.hAppend wsX90 wsX20)))))
theorem iX9_rank_X9 : ∀ w ∈ wsX90, w ∈ uX9_rank := fun _ h => (List.mem_cons_of_mem _ (List.mem_append_right _ (List.mem_append_right _ (List.mem_append_right _ (List.mem_append_right _ (List.mem_append_left _ h))))))
theorem iX9_rank_X2 : ∀ w ∈ wsX20, w ∈ uX9_rank := fun _ h => (List.mem_cons_of_mem _ (List.mem_append_right _ (List.mem_append_right _ (List.mem_append_right _ (List.mem_append_right _ (List.mem_append_right _ h))))))
theorem guX9_rank : GU uX9_rank := gu_cons (gu_app (by decide +kernel) (gu_ap guX2_hasLaw (gu_ap guX9_isWithin (gu_ap guX2_tally (gu_ap gws_X9 gws_X2)))))
theorem gX9_rank__X2_hasLaw_V149 : GoodIn uX9_rank (wsV RX9 149 RX2 yX2_hasLaw uX2_hasLaw) := gin_V (List.mem_of_getElem? (i := 2) rfl) (List.mem_of_getElem? (i := 3) rfl) (List.mem_of_getElem? (i := 4) rfl) (List.mem_of_getElem? (i := 5) rfl) (fun _ h => (List.mem_cons_of_mem _ (List.mem_append_right _ (List.mem_append_left _ h)))) guX2_hasLaw
theorem gX9_rank__X9_isWithin_S158 : GoodIn uX9_rank (va_wsS RX9 158 yX9_isWithin uX9_isWithin) := gin_S (List.mem_of_getElem? (i := 6) rfl) (List.mem_of_getElem? (i := 7) rfl) (List.mem_of_getElem? (i := 8) rfl) (fun _ h => (List.mem_cons_of_mem _ (List.mem_append_right _ (List.mem_append_right _ (List.mem_append_left _ h))))) guX9_isWithin
theorem gX9_rank__X2_tally_V162 : GoodIn uX9_rank (wsV RX9 162 RX2 yX2_tally uX2_tally) := gin_V (List.mem_of_getElem? (i := 9) rfl) (List.mem_of_getElem? (i := 10) rfl) (List.mem_of_getElem? (i := 11) rfl) (List.mem_of_getElem? (i := 5) rfl) (fun _ h => (List.mem_cons_of_mem _ (List.mem_append_right _ (List.mem_append_right _ (List.mem_append_right _ (List.mem_append_left _ h)))))) guX2_tally
set_option maxHeartbeats 4000000 in
set_option maxRecDepth 100000 in
theorem kX9_rank (l : Launch) (dC : Nat → ClassId) (dI : Nat → Nat → Nat) (h0 : Nat) (tp : Nat) (sc : Nat) (rd : Nat) (cu : Nat) (im : Nat) (ig : Nat) (sl : Nat) (se : Nat) (sm : Nat) (fc : Nat) (ln : Int32) (bs : Int32) (tk : Int32) (lw : Int32) (li : Int32) (fa : Nat) (lu : Nat) (cL : ClassId) (nl : Nat) (fl : Nat → Int32) (a1 : Int32) (a2 : Int32) (b_ln : (0 : Int) ≤ ln.toInt ∧ ln.toInt ≤ 12) (b_bs : (0 : Int) ≤ bs.toInt ∧ bs.toInt ≤ 16) (b_tk : (0 : Int) ≤ tk.toInt ∧ tk.toInt ≤ 20000) (b_lw : (0 : Int) ≤ lw.toInt ∧ lw.toInt ≤ 9) (hl1 : tk.toInt ≤ (nl : Int)) : Met l yX9_rank uX9_rank ({ frames := 2, cells := 0, slots := 0, locals := 39 }) (va_Pc [.ref h0, .int a1, .int a2] (pw (dC, dI) vwCl [(h0, .inr (7, [.ref tp, .ref sc, .ref rd, .ref cu, .ref im, .ref ig, .ref sl, .ref se, .ref sm, .ref fc])), (cu, .inr (1, [.int ln, .int bs, .int tk, .int lw, .int li, .ref fa, .ref lu])), (lu, .inl (cL, nl, .inl fl))] [(cL, .int)])) (vp_Si (fun r => True)) 0 0 (fun _ => False) := by
  refine Met.ofW (cc := cX9_rank) (maxL := 3) (ret := (some .int)) pn_X9 rfl ?_
  intro p e s m args below meth c s₁ B hml hv
  obtain ⟨rfl, hP, hK, hN⟩ := hv
  have hx := B.exec
  have hb := B.bytes
  have hr := B.returns
  have hts := atoms_spec (ws := uX9_rank) B.pre
  have hown : s.vm.findClass RX9 = some m.cls := hown_of B.named rfl
  have hlocks := B.notSynchronized
  have hl := lv_entry ([.ref h0, .int a1, .int a2]) (n := 3) (Nat.le_of_ble_eq_true rfl)
  rw [lg_entry_eq]
  generalize (lg_sl ([.ref h0, .int a1, .int a2]) ++ List.replicate (3 - (lg_sl ([.ref h0, .int a1, .int a2])).length) Slot.unset).toArray = ls at hl ⊢
  have hl : lv_has ls 3 [(0, .ref h0), (1, .int a1), (2, .int a2)] := hl
  refine lv_aload_n hx hb dX9_rank_0 rfl (lv_at hl 0 rfl) ?_
  refine va_get (D := (dC, dI)) (ci := 7) (v := .ref cu) (C := RX9) (T := TX9) (N := 10) hx hb hts iX9_rank_X9 hown hK hP 0 rfl rfl 3 (by decide) (hts (.fieldLink RX9 35 "LuckyTicket" "current" "LLuckyTicket$Roll;") (List.mem_of_getElem? (i := 1) rfl)) (fun _ h9 => h9) rfl dX9_rank_1 ?_
  refine lv_iload_n hx hb dX9_rank_4 rfl (lv_at hl 1 rfl) ?_
  refine vp_callSi (W.runV (As := [.int a1]) (rest := []) ⟨hx, hb, hml, hown, hts⟩ (kX2_hasLaw l dC dI cu ln bs tk lw li fa lu a1 b_ln b_bs b_tk b_lw) (cwV 1 hts gX9_rank__X2_hasLaw_V149 rfl rfl rfl hd_yX2_hasLaw ⟨lel 1 2 rfl, lel 21 39 rfl⟩) ⟨pw_fb, rcv_X2 hK hP (q0 := 1) rfl, (pw_use hP hK hN [1] rfl [] rfl)⟩ rfl rfl hl.1 rfl (lv_room (Nat.le_of_ble_eq_true rfl)) dX9_rank_5 ⟨lel 0 0 rfl, lel 0 0 rfl⟩) (fun r_8 h_r_8 => ?_)
  obtain ⟨b_r_8, nz_r_8⟩ := h_r_8
  have b_r_8 : (0 : Int) ≤ r_8.toInt ∧ r_8.toInt ≤ 1 := b_r_8
  refine lv_if_eq (tgt := 26) hx hb dX9_rank_8 (by decide) (fun c_9 => ?_) (fun c_9 => ?_)
  ·
    have n_c_9 : (r_8.toInt : Int) = 0 := c_eq rfl (by decide) c_9
    have b_r_8 : (0 : Int) ≤ r_8.toInt ∧ r_8.toInt ≤ 0 := r_eq1 b_r_8 (by decide : (0 : Int) ≤ (0 : Int32).toInt ∧ (0 : Int32).toInt ≤ 0) n_c_9 (by decide)
    refine lv_bipush (v := (-2)) hx hb dX9_rank_26 (by decide) ?_
    exact W.iret (v := (-2)) hx hb hr (fun t ht hW => ⟨(-2), rfl, trivial, ht⟩) t_nil dX9_rank_28
  ·
    have n_c_9 : (r_8.toInt : Int) ≠ 0 := c_ne rfl (by decide) c_9
    have b_r_8 : (1 : Int) ≤ r_8.toInt ∧ r_8.toInt ≤ 1 := r_ne1 b_r_8 (by decide : (0 : Int) ≤ (0 : Int32).toInt ∧ (0 : Int32).toInt ≤ 0) n_c_9 (by decide)
    obtain ⟨b_a1, g_10⟩ := nz_r_8 c_9
    refine lv_iload_n hx hb dX9_rank_11 rfl (lv_at hl 2 rfl) ?_
    refine lv_iconst (v := 0) hx hb dX9_rank_12 (by decide) ?_
    refine lv_aload_n hx hb dX9_rank_13 rfl (lv_at hl 0 rfl) ?_
    refine va_get (D := (dC, dI)) (ci := 7) (v := .ref cu) (C := RX9) (T := TX9) (N := 10) hx hb hts iX9_rank_X9 hown hK hP 0 rfl rfl 3 (by decide) (hts (.fieldLink RX9 35 "LuckyTicket" "current" "LLuckyTicket$Roll;") (List.mem_of_getElem? (i := 1) rfl)) (fun _ h9 => h9) rfl dX9_rank_14 ?_
    refine va_getN (own := RX9) (index := 155) (ref := RX2) (host := RX9) (D := (dC, dI)) (ci := 1) (v := .int tk) (C := RX2) (T := TX2) (N := 7) hx hb hts iX9_rank_X2 hown hK hP 1 rfl rfl 2 (by decide) (va_Nw.use rfl (hN _ (List.mem_of_getElem? (i := 18) rfl))) (fun _ h9 => h9) rfl dX9_rank_17 ?_
    refine vp_callSi (W.runS (As := [.int a2, .int 0, .int tk]) (rest := []) ⟨hx, hb, hml, hown, hts⟩ (kX9_isWithin l dC dI a2 0 tk ) (va_cwS 3 hts gX9_rank__X9_isWithin_S158 rfl rfl rfl hd_yX9_isWithin.2 ⟨lel 1 2 rfl, lel 22 39 rfl⟩) ⟨pn_fb, pn_use⟩ rfl rfl hl.1 rfl (lv_room (Nat.le_of_ble_eq_true rfl)) dX9_rank_20 ⟨lel 0 0 rfl, lel 0 0 rfl⟩) (fun r_11 h_r_11 => ?_)
    obtain ⟨b_r_11, nz_r_11⟩ := h_r_11
    have b_r_11 : (0 : Int) ≤ r_11.toInt ∧ r_11.toInt ≤ 1 := b_r_11
    refine lv_if_ne (tgt := 29) hx hb dX9_rank_23 (by decide) (fun c_12 => ?_) (fun c_12 => ?_)
    ·
      have n_c_12 : (r_11.toInt : Int) ≠ 0 := c_ne rfl (by decide) c_12
      have b_r_11 : (1 : Int) ≤ r_11.toInt ∧ r_11.toInt ≤ 1 := r_ne1 b_r_11 (by decide : (0 : Int) ≤ (0 : Int32).toInt ∧ (0 : Int32).toInt ≤ 0) n_c_12 (by decide)
      have g_13 := nz_r_11 c_12
      have lt0_g_13 := (by decide : (0 : Int32).toInt = 0)
      have b_a2 : (0 : Int) ≤ a2.toInt ∧ a2.toInt ≤ 20000 := by
        have q0 := (ti_rng a2)
        have q1 := (by decide : (0 : Int) ≤ (0 : Int32).toInt ∧ (0 : Int32).toInt ≤ 0)
        have q2 := b_tk
        omega
      refine lv_aload_n hx hb dX9_rank_29 rfl (lv_at hl 0 rfl) ?_
      refine va_get (D := (dC, dI)) (ci := 7) (v := .ref cu) (C := RX9) (T := TX9) (N := 10) hx hb hts iX9_rank_X9 hown hK hP 0 rfl rfl 3 (by decide) (hts (.fieldLink RX9 35 "LuckyTicket" "current" "LLuckyTicket$Roll;") (List.mem_of_getElem? (i := 1) rfl)) (fun _ h9 => h9) rfl dX9_rank_30 ?_
      refine lv_iload_n hx hb dX9_rank_33 rfl (lv_at hl 1 rfl) ?_
      refine lv_iconst (v := 0) hx hb dX9_rank_34 (by decide) ?_
      refine lv_iload_n hx hb dX9_rank_35 rfl (lv_at hl 2 rfl) ?_
      refine vp_callSi (W.runV (As := [.int a1, .int 0, .int a2]) (rest := []) ⟨hx, hb, hml, hown, hts⟩ (kX2_tally l dC dI cu ln bs tk lw li fa lu cL nl fl a1 0 a2 b_ln b_bs b_tk b_lw (by omega)) (cwV 3 hts gX9_rank__X2_tally_V162 rfl rfl rfl hd_yX2_tally ⟨lel 2 2 rfl, lel 39 39 rfl⟩) ⟨pw_fb, rcv_X2 hK hP (q0 := 1) rfl, (pw_use hP hK hN [1, 2] rfl [0] rfl)⟩ rfl rfl hl.1 rfl (lv_room (Nat.le_of_ble_eq_true rfl)) dX9_rank_36 ⟨lel 0 0 rfl, lel 0 0 rfl⟩) (fun r_14 h_r_14 => ?_)
      exact W.iret (v := r_14) hx hb hr (fun t ht hW => ⟨r_14, rfl, trivial, ht⟩) t_nil dX9_rank_39
    ·
      have n_c_12 : (r_11.toInt : Int) = 0 := c_eq rfl (by decide) c_12
      have b_r_11 : (0 : Int) ≤ r_11.toInt ∧ r_11.toInt ≤ 0 := r_eq1 b_r_11 (by decide : (0 : Int) ≤ (0 : Int32).toInt ∧ (0 : Int32).toInt ≤ 0) n_c_12 (by decide)
      refine lv_bipush (v := (-2)) hx hb dX9_rank_26 (by decide) ?_
      exact W.iret (v := (-2)) hx hb hr (fun t ht hW => ⟨(-2), rfl, trivial, ht⟩) t_nil dX9_rank_28
theorem dX9_next_0 : decode cX9_next 0 = .ok (.aload_n 0, 1) := by decide +kernel
theorem dX9_next_1 : decode cX9_next 1 = .ok (.iload_n 1, 1) := by decide +kernel
theorem dX9_next_2 : decode cX9_next 2 = .ok (.iload_n 2, 1) := by decide +kernel
theorem dX9_next_3 : decode cX9_next 3 = .ok (.invokevirtual 137, 3) := by decide +kernel
theorem dX9_next_6 : decode cX9_next 6 = .ok (.ifCond .eq 17, 3) := by decide +kernel
theorem dX9_next_9 : decode cX9_next 9 = .ok (.aload_n 0, 1) := by decide +kernel
theorem dX9_next_10 : decode cX9_next 10 = .ok (.getfield 35, 3) := by decide +kernel
theorem dX9_next_13 : decode cX9_next 13 = .ok (.iload_n 1, 1) := by decide +kernel
theorem dX9_next_14 : decode cX9_next 14 = .ok (.iload_n 2, 1) := by decide +kernel
theorem dX9_next_15 : decode cX9_next 15 = .ok (.iconst 1, 1) := by decide +kernel
theorem dX9_next_16 : decode cX9_next 16 = .ok (.iadd, 1) := by decide +kernel
theorem dX9_next_17 : decode cX9_next 17 = .ok (.invokevirtual 166, 3) := by decide +kernel
theorem dX9_next_20 : decode cX9_next 20 = .ok (.goto 5, 3) := by decide +kernel
theorem dX9_next_23 : decode cX9_next 23 = .ok (.bipush (-2), 2) := by decide +kernel
theorem dX9_next_25 : decode cX9_next 25 = .ok (.ireturn, 1) := by decide +kernel
theorem hd_yX9_next : yX9_next.cls = RX9 ∧ yX9_next.cls ≠ "java/lang/invoke/MethodHandle" ∧ yX9_next.cls ≠ "java/lang/invoke/VarHandle" ∧ (parseMethodDescriptor yX9_next.desc).map (fun d => d.parameters.length) = some 2 := by decide +kernel
def uX9_next : List Cond := List.cons (.code yX9_next cX9_next 3 (some .int)) (HAppend.hAppend ([.methodLink RX9 137 yX9_hasBoth, .instanceMethod yX9_hasBoth, .selects RX9 yX9_hasBoth yX9_hasBoth, .initialized RX9, .fieldLink RX9 35 "LuckyTicket" "current" "LLuckyTicket$Roll;", .methodLink RX9 166 yX2_seekUp, .instanceMethod yX2_seekUp, .selects RX2 yX2_seekUp yX2_seekUp, .initialized RX2] : List Cond) (HAppend.hAppend uX9_hasBoth (HAppend.hAppend uX2_seekUp wsX90)))
theorem iX9_next_X9 : ∀ w ∈ wsX90, w ∈ uX9_next := fun _ h => (List.mem_cons_of_mem _ (List.mem_append_right _ (List.mem_append_right _ (List.mem_append_right _ h))))
theorem guX9_next : GU uX9_next := gu_cons (gu_app (by decide +kernel) (gu_ap guX9_hasBoth (gu_ap guX2_seekUp gws_X9)))
theorem gX9_next__X9_hasBoth_V137 : GoodIn uX9_next (wsV RX9 137 RX9 yX9_hasBoth uX9_hasBoth) := gin_V (List.mem_of_getElem? (i := 1) rfl) (List.mem_of_getElem? (i := 2) rfl) (List.mem_of_getElem? (i := 3) rfl) (List.mem_of_getElem? (i := 4) rfl) (fun _ h => (List.mem_cons_of_mem _ (List.mem_append_right _ (List.mem_append_left _ h)))) guX9_hasBoth
theorem gX9_next__X2_seekUp_V166 : GoodIn uX9_next (wsV RX9 166 RX2 yX2_seekUp uX2_seekUp) := gin_V (List.mem_of_getElem? (i := 6) rfl) (List.mem_of_getElem? (i := 7) rfl) (List.mem_of_getElem? (i := 8) rfl) (List.mem_of_getElem? (i := 9) rfl) (fun _ h => (List.mem_cons_of_mem _ (List.mem_append_right _ (List.mem_append_right _ (List.mem_append_left _ h))))) guX2_seekUp
set_option maxHeartbeats 4000000 in
set_option maxRecDepth 100000 in
theorem kX9_next (l : Launch) (dC : Nat → ClassId) (dI : Nat → Nat → Nat) (h0 : Nat) (tp : Nat) (sc : Nat) (rd : Nat) (cu : Nat) (im : Nat) (ig : Nat) (sl : Nat) (se : Nat) (sm : Nat) (fc : Nat) (ln : Int32) (bs : Int32) (tk : Int32) (lw : Int32) (li : Int32) (fa : Nat) (lu : Nat) (cL : ClassId) (nl : Nat) (fl : Nat → Int32) (a1 : Int32) (a2 : Int32) (b_ln : (0 : Int) ≤ ln.toInt ∧ ln.toInt ≤ 12) (b_bs : (0 : Int) ≤ bs.toInt ∧ bs.toInt ≤ 16) (b_tk : (0 : Int) ≤ tk.toInt ∧ tk.toInt ≤ 20000) (b_lw : (0 : Int) ≤ lw.toInt ∧ lw.toInt ≤ 9) (hl1 : tk.toInt ≤ (nl : Int)) : Met l yX9_next uX9_next ({ frames := 2, cells := 0, slots := 0, locals := 45 }) (va_Pc [.ref h0, .int a1, .int a2] (pw (dC, dI) vwCl [(h0, .inr (7, [.ref tp, .ref sc, .ref rd, .ref cu, .ref im, .ref ig, .ref sl, .ref se, .ref sm, .ref fc])), (cu, .inr (1, [.int ln, .int bs, .int tk, .int lw, .int li, .ref fa, .ref lu])), (lu, .inl (cL, nl, .inl fl))] [(cL, .int)])) (vp_Si (fun r => ((-2147483648 : Int) ≤ r.toInt ∧ r.toInt ≤ 19999))) 0 0 (fun _ => False) := by
  refine Met.ofW (cc := cX9_next) (maxL := 3) (ret := (some .int)) pn_X9 rfl ?_
  intro p e s m args below meth c s₁ B hml hv
  obtain ⟨rfl, hP, hK, hN⟩ := hv
  have hx := B.exec
  have hb := B.bytes
  have hr := B.returns
  have hts := atoms_spec (ws := uX9_next) B.pre
  have hown : s.vm.findClass RX9 = some m.cls := hown_of B.named rfl
  have hlocks := B.notSynchronized
  have hl := lv_entry ([.ref h0, .int a1, .int a2]) (n := 3) (Nat.le_of_ble_eq_true rfl)
  rw [lg_entry_eq]
  generalize (lg_sl ([.ref h0, .int a1, .int a2]) ++ List.replicate (3 - (lg_sl ([.ref h0, .int a1, .int a2])).length) Slot.unset).toArray = ls at hl ⊢
  have hl : lv_has ls 3 [(0, .ref h0), (1, .int a1), (2, .int a2)] := hl
  refine lv_aload_n hx hb dX9_next_0 rfl (lv_at hl 0 rfl) ?_
  refine lv_iload_n hx hb dX9_next_1 rfl (lv_at hl 1 rfl) ?_
  refine lv_iload_n hx hb dX9_next_2 rfl (lv_at hl 2 rfl) ?_
  refine vp_callSi (W.runV (As := [.int a1, .int a2]) (rest := []) ⟨hx, hb, hml, hown, hts⟩ (kX9_hasBoth l dC dI h0 tp sc rd cu im ig sl se sm fc ln bs tk lw li fa lu a1 a2 b_ln b_bs b_tk b_lw) (cwV 2 hts gX9_next__X9_hasBoth_V137 rfl rfl rfl hd_yX9_hasBoth ⟨lel 2 2 rfl, lel 43 45 rfl⟩) ⟨pw_fb, rcv_X9 hK hP (q0 := 0) rfl, (pw_use hP hK hN [0, 1] rfl [] rfl)⟩ rfl rfl hl.1 rfl (lv_room (Nat.le_of_ble_eq_true rfl)) dX9_next_3 ⟨lel 0 0 rfl, lel 0 0 rfl⟩) (fun r_6 h_r_6 => ?_)
  obtain ⟨b_r_6, nz_r_6⟩ := h_r_6
  have b_r_6 : (0 : Int) ≤ r_6.toInt ∧ r_6.toInt ≤ 1 := b_r_6
  refine lv_if_eq (tgt := 23) hx hb dX9_next_6 (by decide) (fun c_7 => ?_) (fun c_7 => ?_)
  ·
    have n_c_7 : (r_6.toInt : Int) = 0 := c_eq rfl (by decide) c_7
    have b_r_6 : (0 : Int) ≤ r_6.toInt ∧ r_6.toInt ≤ 0 := r_eq1 b_r_6 (by decide : (0 : Int) ≤ (0 : Int32).toInt ∧ (0 : Int32).toInt ≤ 0) n_c_7 (by decide)
    refine lv_bipush (v := (-2)) hx hb dX9_next_23 (by decide) ?_
    exact W.iret (v := (-2)) hx hb hr (fun t ht hW => ⟨(-2), rfl, (rg_w (by decide : (-2 : Int) ≤ ((-2) : Int32).toInt ∧ ((-2) : Int32).toInt ≤ -2) (by decide) (by decide)), ht⟩) t_nil dX9_next_25
  ·
    have n_c_7 : (r_6.toInt : Int) ≠ 0 := c_ne rfl (by decide) c_7
    have b_r_6 : (1 : Int) ≤ r_6.toInt ∧ r_6.toInt ≤ 1 := r_ne1 b_r_6 (by decide : (0 : Int) ≤ (0 : Int32).toInt ∧ (0 : Int32).toInt ≤ 0) n_c_7 (by decide)
    obtain ⟨b_a1, b_a2, g_8⟩ := nz_r_6 c_7
    refine lv_aload_n hx hb dX9_next_9 rfl (lv_at hl 0 rfl) ?_
    refine va_get (D := (dC, dI)) (ci := 7) (v := .ref cu) (C := RX9) (T := TX9) (N := 10) hx hb hts iX9_next_X9 hown hK hP 0 rfl rfl 3 (by decide) (hts (.fieldLink RX9 35 "LuckyTicket" "current" "LLuckyTicket$Roll;") (List.mem_of_getElem? (i := 5) rfl)) (fun _ h9 => h9) rfl dX9_next_10 ?_
    refine lv_iload_n hx hb dX9_next_13 rfl (lv_at hl 1 rfl) ?_
    refine lv_iload_n hx hb dX9_next_14 rfl (lv_at hl 2 rfl) ?_
    refine lv_iconst (v := 1) hx hb dX9_next_15 (by decide) ?_
    refine lv_iadd hx hb dX9_next_16 ?_
    refine lv_topi (fun z_9 e_z_9 => ?_)
    obtain ⟨q_z_9, b_z_9⟩ := ti_add (lo := 1) (hi := 20000) e_z_9 rfl (by decide : (1 : Int32).toInt = 1) b_a2 (by decide : (1 : Int) ≤ (1 : Int32).toInt ∧ (1 : Int32).toInt ≤ 1) (by decide)
    refine vp_callSi (W.runV (As := [.int a1, .int z_9]) (rest := []) ⟨hx, hb, hml, hown, hts⟩ (kX2_seekUp l dC dI cu ln bs tk lw li fa lu cL nl fl a1 z_9 b_ln b_bs b_tk b_lw (by omega)) (cwV 2 hts gX9_next__X2_seekUp_V166 rfl rfl rfl hd_yX2_seekUp ⟨lel 2 2 rfl, lel 45 45 rfl⟩) ⟨pw_fb, rcv_X2 hK hP (q0 := 1) rfl, (pw_use hP hK hN [1, 2] rfl [0] rfl)⟩ rfl rfl hl.1 rfl (lv_room (Nat.le_of_ble_eq_true rfl)) dX9_next_17 ⟨lel 0 0 rfl, lel 0 0 rfl⟩) (fun r_10 h_r_10 => ?_)
    have b_r_10 := h_r_10
    have b_r_10 : (-2147483648 : Int) ≤ r_10.toInt ∧ r_10.toInt ≤ 19999 := b_r_10
    refine lv_goto (tgt := 25) hx hb dX9_next_20 (by decide) ?_
    exact W.iret (v := r_10) hx hb hr (fun t ht hW => ⟨r_10, rfl, b_r_10, ht⟩) t_nil dX9_next_25
theorem dX9_last_0 : decode cX9_last 0 = .ok (.aload_n 0, 1) := by decide +kernel
theorem dX9_last_1 : decode cX9_last 1 = .ok (.iload_n 1, 1) := by decide +kernel
theorem dX9_last_2 : decode cX9_last 2 = .ok (.iload_n 2, 1) := by decide +kernel
theorem dX9_last_3 : decode cX9_last 3 = .ok (.invokevirtual 137, 3) := by decide +kernel
theorem dX9_last_6 : decode cX9_last 6 = .ok (.ifCond .eq 17, 3) := by decide +kernel
theorem dX9_last_9 : decode cX9_last 9 = .ok (.aload_n 0, 1) := by decide +kernel
theorem dX9_last_10 : decode cX9_last 10 = .ok (.getfield 35, 3) := by decide +kernel
theorem dX9_last_13 : decode cX9_last 13 = .ok (.iload_n 1, 1) := by decide +kernel
theorem dX9_last_14 : decode cX9_last 14 = .ok (.iload_n 2, 1) := by decide +kernel
theorem dX9_last_15 : decode cX9_last 15 = .ok (.iconst 1, 1) := by decide +kernel
theorem dX9_last_16 : decode cX9_last 16 = .ok (.isub, 1) := by decide +kernel
theorem dX9_last_17 : decode cX9_last 17 = .ok (.invokevirtual 169, 3) := by decide +kernel
theorem dX9_last_20 : decode cX9_last 20 = .ok (.goto 5, 3) := by decide +kernel
theorem dX9_last_23 : decode cX9_last 23 = .ok (.bipush (-2), 2) := by decide +kernel
theorem dX9_last_25 : decode cX9_last 25 = .ok (.ireturn, 1) := by decide +kernel
theorem hd_yX9_last : yX9_last.cls = RX9 ∧ yX9_last.cls ≠ "java/lang/invoke/MethodHandle" ∧ yX9_last.cls ≠ "java/lang/invoke/VarHandle" ∧ (parseMethodDescriptor yX9_last.desc).map (fun d => d.parameters.length) = some 2 := by decide +kernel
def uX9_last : List Cond := List.cons (.code yX9_last cX9_last 3 (some .int)) (HAppend.hAppend ([.methodLink RX9 137 yX9_hasBoth, .instanceMethod yX9_hasBoth, .selects RX9 yX9_hasBoth yX9_hasBoth, .initialized RX9, .fieldLink RX9 35 "LuckyTicket" "current" "LLuckyTicket$Roll;", .methodLink RX9 169 yX2_seekDown, .instanceMethod yX2_seekDown, .selects RX2 yX2_seekDown yX2_seekDown, .initialized RX2] : List Cond) (HAppend.hAppend uX9_hasBoth (HAppend.hAppend uX2_seekDown wsX90)))
theorem iX9_last_X9 : ∀ w ∈ wsX90, w ∈ uX9_last := fun _ h => (List.mem_cons_of_mem _ (List.mem_append_right _ (List.mem_append_right _ (List.mem_append_right _ h))))
theorem guX9_last : GU uX9_last := gu_cons (gu_app (by decide +kernel) (gu_ap guX9_hasBoth (gu_ap guX2_seekDown gws_X9)))
theorem gX9_last__X9_hasBoth_V137 : GoodIn uX9_last (wsV RX9 137 RX9 yX9_hasBoth uX9_hasBoth) := gin_V (List.mem_of_getElem? (i := 1) rfl) (List.mem_of_getElem? (i := 2) rfl) (List.mem_of_getElem? (i := 3) rfl) (List.mem_of_getElem? (i := 4) rfl) (fun _ h => (List.mem_cons_of_mem _ (List.mem_append_right _ (List.mem_append_left _ h)))) guX9_hasBoth
theorem gX9_last__X2_seekDown_V169 : GoodIn uX9_last (wsV RX9 169 RX2 yX2_seekDown uX2_seekDown) := gin_V (List.mem_of_getElem? (i := 6) rfl) (List.mem_of_getElem? (i := 7) rfl) (List.mem_of_getElem? (i := 8) rfl) (List.mem_of_getElem? (i := 9) rfl) (fun _ h => (List.mem_cons_of_mem _ (List.mem_append_right _ (List.mem_append_right _ (List.mem_append_left _ h))))) guX2_seekDown
set_option maxHeartbeats 4000000 in
set_option maxRecDepth 100000 in
theorem kX9_last (l : Launch) (dC : Nat → ClassId) (dI : Nat → Nat → Nat) (h0 : Nat) (tp : Nat) (sc : Nat) (rd : Nat) (cu : Nat) (im : Nat) (ig : Nat) (sl : Nat) (se : Nat) (sm : Nat) (fc : Nat) (ln : Int32) (bs : Int32) (tk : Int32) (lw : Int32) (li : Int32) (fa : Nat) (lu : Nat) (cL : ClassId) (nl : Nat) (fl : Nat → Int32) (a1 : Int32) (a2 : Int32) (b_ln : (0 : Int) ≤ ln.toInt ∧ ln.toInt ≤ 12) (b_bs : (0 : Int) ≤ bs.toInt ∧ bs.toInt ≤ 16) (b_tk : (0 : Int) ≤ tk.toInt ∧ tk.toInt ≤ 20000) (b_lw : (0 : Int) ≤ lw.toInt ∧ lw.toInt ≤ 9) (hl1 : tk.toInt ≤ (nl : Int)) : Met l yX9_last uX9_last ({ frames := 2, cells := 0, slots := 0, locals := 45 }) (va_Pc [.ref h0, .int a1, .int a2] (pw (dC, dI) vwCl [(h0, .inr (7, [.ref tp, .ref sc, .ref rd, .ref cu, .ref im, .ref ig, .ref sl, .ref se, .ref sm, .ref fc])), (cu, .inr (1, [.int ln, .int bs, .int tk, .int lw, .int li, .ref fa, .ref lu])), (lu, .inl (cL, nl, .inl fl))] [(cL, .int)])) (vp_Si (fun r => ((-2 : Int) ≤ r.toInt ∧ r.toInt ≤ 2147483647))) 0 0 (fun _ => False) := by
  refine Met.ofW (cc := cX9_last) (maxL := 3) (ret := (some .int)) pn_X9 rfl ?_
  intro p e s m args below meth c s₁ B hml hv
  obtain ⟨rfl, hP, hK, hN⟩ := hv
  have hx := B.exec
  have hb := B.bytes
  have hr := B.returns
  have hts := atoms_spec (ws := uX9_last) B.pre
  have hown : s.vm.findClass RX9 = some m.cls := hown_of B.named rfl
  have hlocks := B.notSynchronized
  have hl := lv_entry ([.ref h0, .int a1, .int a2]) (n := 3) (Nat.le_of_ble_eq_true rfl)
  rw [lg_entry_eq]
  generalize (lg_sl ([.ref h0, .int a1, .int a2]) ++ List.replicate (3 - (lg_sl ([.ref h0, .int a1, .int a2])).length) Slot.unset).toArray = ls at hl ⊢
  have hl : lv_has ls 3 [(0, .ref h0), (1, .int a1), (2, .int a2)] := hl
  refine lv_aload_n hx hb dX9_last_0 rfl (lv_at hl 0 rfl) ?_
  refine lv_iload_n hx hb dX9_last_1 rfl (lv_at hl 1 rfl) ?_
  refine lv_iload_n hx hb dX9_last_2 rfl (lv_at hl 2 rfl) ?_
  refine vp_callSi (W.runV (As := [.int a1, .int a2]) (rest := []) ⟨hx, hb, hml, hown, hts⟩ (kX9_hasBoth l dC dI h0 tp sc rd cu im ig sl se sm fc ln bs tk lw li fa lu a1 a2 b_ln b_bs b_tk b_lw) (cwV 2 hts gX9_last__X9_hasBoth_V137 rfl rfl rfl hd_yX9_hasBoth ⟨lel 2 2 rfl, lel 43 45 rfl⟩) ⟨pw_fb, rcv_X9 hK hP (q0 := 0) rfl, (pw_use hP hK hN [0, 1] rfl [] rfl)⟩ rfl rfl hl.1 rfl (lv_room (Nat.le_of_ble_eq_true rfl)) dX9_last_3 ⟨lel 0 0 rfl, lel 0 0 rfl⟩) (fun r_6 h_r_6 => ?_)
  obtain ⟨b_r_6, nz_r_6⟩ := h_r_6
  have b_r_6 : (0 : Int) ≤ r_6.toInt ∧ r_6.toInt ≤ 1 := b_r_6
  refine lv_if_eq (tgt := 23) hx hb dX9_last_6 (by decide) (fun c_7 => ?_) (fun c_7 => ?_)
  ·
    have n_c_7 : (r_6.toInt : Int) = 0 := c_eq rfl (by decide) c_7
    have b_r_6 : (0 : Int) ≤ r_6.toInt ∧ r_6.toInt ≤ 0 := r_eq1 b_r_6 (by decide : (0 : Int) ≤ (0 : Int32).toInt ∧ (0 : Int32).toInt ≤ 0) n_c_7 (by decide)
    refine lv_bipush (v := (-2)) hx hb dX9_last_23 (by decide) ?_
    exact W.iret (v := (-2)) hx hb hr (fun t ht hW => ⟨(-2), rfl, (rg_w (by decide : (-2 : Int) ≤ ((-2) : Int32).toInt ∧ ((-2) : Int32).toInt ≤ -2) (by decide) (by decide)), ht⟩) t_nil dX9_last_25
  ·
    have n_c_7 : (r_6.toInt : Int) ≠ 0 := c_ne rfl (by decide) c_7
    have b_r_6 : (1 : Int) ≤ r_6.toInt ∧ r_6.toInt ≤ 1 := r_ne1 b_r_6 (by decide : (0 : Int) ≤ (0 : Int32).toInt ∧ (0 : Int32).toInt ≤ 0) n_c_7 (by decide)
    obtain ⟨b_a1, b_a2, g_8⟩ := nz_r_6 c_7
    refine lv_aload_n hx hb dX9_last_9 rfl (lv_at hl 0 rfl) ?_
    refine va_get (D := (dC, dI)) (ci := 7) (v := .ref cu) (C := RX9) (T := TX9) (N := 10) hx hb hts iX9_last_X9 hown hK hP 0 rfl rfl 3 (by decide) (hts (.fieldLink RX9 35 "LuckyTicket" "current" "LLuckyTicket$Roll;") (List.mem_of_getElem? (i := 5) rfl)) (fun _ h9 => h9) rfl dX9_last_10 ?_
    refine lv_iload_n hx hb dX9_last_13 rfl (lv_at hl 1 rfl) ?_
    refine lv_iload_n hx hb dX9_last_14 rfl (lv_at hl 2 rfl) ?_
    refine lv_iconst (v := 1) hx hb dX9_last_15 (by decide) ?_
    refine lv_isub hx hb dX9_last_16 ?_
    refine lv_topi (fun z_9 e_z_9 => ?_)
    obtain ⟨q_z_9, b_z_9⟩ := ti_sub (lo := -1) (hi := 19998) e_z_9 rfl (by decide : (1 : Int32).toInt = 1) b_a2 (by decide : (1 : Int) ≤ (1 : Int32).toInt ∧ (1 : Int32).toInt ≤ 1) (by decide)
    refine vp_callSi (W.runV (As := [.int a1, .int z_9]) (rest := []) ⟨hx, hb, hml, hown, hts⟩ (kX2_seekDown l dC dI cu ln bs tk lw li fa lu cL nl fl a1 z_9 b_ln b_bs b_tk b_lw (by omega)) (cwV 2 hts gX9_last__X2_seekDown_V169 rfl rfl rfl hd_yX2_seekDown ⟨lel 2 2 rfl, lel 45 45 rfl⟩) ⟨pw_fb, rcv_X2 hK hP (q0 := 1) rfl, (pw_use hP hK hN [1, 2] rfl [0] rfl)⟩ rfl rfl hl.1 rfl (lv_room (Nat.le_of_ble_eq_true rfl)) dX9_last_17 ⟨lel 0 0 rfl, lel 0 0 rfl⟩) (fun r_10 h_r_10 => ?_)
    have b_r_10 := h_r_10
    have b_r_10 : (-1 : Int) ≤ r_10.toInt ∧ r_10.toInt ≤ 2147483647 := b_r_10
    refine lv_goto (tgt := 25) hx hb dX9_last_20 (by decide) ?_
    exact W.iret (v := r_10) hx hb hr (fun t ht hW => ⟨r_10, rfl, (rg_w b_r_10 (by decide) (by decide)), ht⟩) t_nil dX9_last_25
theorem dX9_nth_0 : decode cX9_nth 0 = .ok (.aload_n 0, 1) := by decide +kernel
theorem dX9_nth_1 : decode cX9_nth 1 = .ok (.getfield 35, 3) := by decide +kernel
theorem dX9_nth_4 : decode cX9_nth 4 = .ok (.iload_n 1, 1) := by decide +kernel
theorem dX9_nth_5 : decode cX9_nth 5 = .ok (.invokevirtual 149, 3) := by decide +kernel
theorem dX9_nth_8 : decode cX9_nth 8 = .ok (.ifCond .eq 15, 3) := by decide +kernel
theorem dX9_nth_11 : decode cX9_nth 11 = .ok (.aload_n 0, 1) := by decide +kernel
theorem dX9_nth_12 : decode cX9_nth 12 = .ok (.getfield 35, 3) := by decide +kernel
theorem dX9_nth_15 : decode cX9_nth 15 = .ok (.iload_n 1, 1) := by decide +kernel
theorem dX9_nth_16 : decode cX9_nth 16 = .ok (.iload_n 2, 1) := by decide +kernel
theorem dX9_nth_17 : decode cX9_nth 17 = .ok (.invokevirtual 172, 3) := by decide +kernel
theorem dX9_nth_20 : decode cX9_nth 20 = .ok (.goto 5, 3) := by decide +kernel
theorem dX9_nth_23 : decode cX9_nth 23 = .ok (.bipush (-2), 2) := by decide +kernel
theorem dX9_nth_25 : decode cX9_nth 25 = .ok (.ireturn, 1) := by decide +kernel
theorem hd_yX9_nth : yX9_nth.cls = RX9 ∧ yX9_nth.cls ≠ "java/lang/invoke/MethodHandle" ∧ yX9_nth.cls ≠ "java/lang/invoke/VarHandle" ∧ (parseMethodDescriptor yX9_nth.desc).map (fun d => d.parameters.length) = some 2 := by decide +kernel
def uX9_nth : List Cond := List.cons (.code yX9_nth cX9_nth 3 (some .int)) (HAppend.hAppend ([.fieldLink RX9 35 "LuckyTicket" "current" "LLuckyTicket$Roll;", .methodLink RX9 149 yX2_hasLaw, .instanceMethod yX2_hasLaw, .selects RX2 yX2_hasLaw yX2_hasLaw, .initialized RX2, .methodLink RX9 172 yX2_pick, .instanceMethod yX2_pick, .selects RX2 yX2_pick yX2_pick] : List Cond) (HAppend.hAppend uX2_hasLaw (HAppend.hAppend uX2_pick wsX90)))
theorem iX9_nth_X9 : ∀ w ∈ wsX90, w ∈ uX9_nth := fun _ h => (List.mem_cons_of_mem _ (List.mem_append_right _ (List.mem_append_right _ (List.mem_append_right _ h))))
theorem guX9_nth : GU uX9_nth := gu_cons (gu_app (by decide +kernel) (gu_ap guX2_hasLaw (gu_ap guX2_pick gws_X9)))
theorem gX9_nth__X2_hasLaw_V149 : GoodIn uX9_nth (wsV RX9 149 RX2 yX2_hasLaw uX2_hasLaw) := gin_V (List.mem_of_getElem? (i := 2) rfl) (List.mem_of_getElem? (i := 3) rfl) (List.mem_of_getElem? (i := 4) rfl) (List.mem_of_getElem? (i := 5) rfl) (fun _ h => (List.mem_cons_of_mem _ (List.mem_append_right _ (List.mem_append_left _ h)))) guX2_hasLaw
theorem gX9_nth__X2_pick_V172 : GoodIn uX9_nth (wsV RX9 172 RX2 yX2_pick uX2_pick) := gin_V (List.mem_of_getElem? (i := 6) rfl) (List.mem_of_getElem? (i := 7) rfl) (List.mem_of_getElem? (i := 8) rfl) (List.mem_of_getElem? (i := 5) rfl) (fun _ h => (List.mem_cons_of_mem _ (List.mem_append_right _ (List.mem_append_right _ (List.mem_append_left _ h))))) guX2_pick
set_option maxHeartbeats 4000000 in
set_option maxRecDepth 100000 in
theorem kX9_nth (l : Launch) (dC : Nat → ClassId) (dI : Nat → Nat → Nat) (h0 : Nat) (tp : Nat) (sc : Nat) (rd : Nat) (cu : Nat) (im : Nat) (ig : Nat) (sl : Nat) (se : Nat) (sm : Nat) (fc : Nat) (ln : Int32) (bs : Int32) (tk : Int32) (lw : Int32) (li : Int32) (fa : Nat) (lu : Nat) (cL : ClassId) (nl : Nat) (fl : Nat → Int32) (a1 : Int32) (a2 : Int32) (b_ln : (0 : Int) ≤ ln.toInt ∧ ln.toInt ≤ 12) (b_bs : (0 : Int) ≤ bs.toInt ∧ bs.toInt ≤ 16) (b_tk : (0 : Int) ≤ tk.toInt ∧ tk.toInt ≤ 20000) (b_lw : (0 : Int) ≤ lw.toInt ∧ lw.toInt ≤ 9) (hl1 : tk.toInt ≤ (nl : Int)) : Met l yX9_nth uX9_nth ({ frames := 2, cells := 0, slots := 0, locals := 46 }) (va_Pc [.ref h0, .int a1, .int a2] (pw (dC, dI) vwCl [(h0, .inr (7, [.ref tp, .ref sc, .ref rd, .ref cu, .ref im, .ref ig, .ref sl, .ref se, .ref sm, .ref fc])), (cu, .inr (1, [.int ln, .int bs, .int tk, .int lw, .int li, .ref fa, .ref lu])), (lu, .inl (cL, nl, .inl fl))] [(cL, .int)])) (vp_Si (fun r => ((-2 : Int) ≤ r.toInt ∧ r.toInt ≤ 19999))) 0 0 (fun _ => False) := by
  refine Met.ofW (cc := cX9_nth) (maxL := 3) (ret := (some .int)) pn_X9 rfl ?_
  intro p e s m args below meth c s₁ B hml hv
  obtain ⟨rfl, hP, hK, hN⟩ := hv
  have hx := B.exec
  have hb := B.bytes
  have hr := B.returns
  have hts := atoms_spec (ws := uX9_nth) B.pre
  have hown : s.vm.findClass RX9 = some m.cls := hown_of B.named rfl
  have hlocks := B.notSynchronized
  have hl := lv_entry ([.ref h0, .int a1, .int a2]) (n := 3) (Nat.le_of_ble_eq_true rfl)
  rw [lg_entry_eq]
  generalize (lg_sl ([.ref h0, .int a1, .int a2]) ++ List.replicate (3 - (lg_sl ([.ref h0, .int a1, .int a2])).length) Slot.unset).toArray = ls at hl ⊢
  have hl : lv_has ls 3 [(0, .ref h0), (1, .int a1), (2, .int a2)] := hl
  refine lv_aload_n hx hb dX9_nth_0 rfl (lv_at hl 0 rfl) ?_
  refine va_get (D := (dC, dI)) (ci := 7) (v := .ref cu) (C := RX9) (T := TX9) (N := 10) hx hb hts iX9_nth_X9 hown hK hP 0 rfl rfl 3 (by decide) (hts (.fieldLink RX9 35 "LuckyTicket" "current" "LLuckyTicket$Roll;") (List.mem_of_getElem? (i := 1) rfl)) (fun _ h9 => h9) rfl dX9_nth_1 ?_
  refine lv_iload_n hx hb dX9_nth_4 rfl (lv_at hl 1 rfl) ?_
  refine vp_callSi (W.runV (As := [.int a1]) (rest := []) ⟨hx, hb, hml, hown, hts⟩ (kX2_hasLaw l dC dI cu ln bs tk lw li fa lu a1 b_ln b_bs b_tk b_lw) (cwV 1 hts gX9_nth__X2_hasLaw_V149 rfl rfl rfl hd_yX2_hasLaw ⟨lel 1 2 rfl, lel 21 46 rfl⟩) ⟨pw_fb, rcv_X2 hK hP (q0 := 1) rfl, (pw_use hP hK hN [1] rfl [] rfl)⟩ rfl rfl hl.1 rfl (lv_room (Nat.le_of_ble_eq_true rfl)) dX9_nth_5 ⟨lel 0 0 rfl, lel 0 0 rfl⟩) (fun r_5 h_r_5 => ?_)
  obtain ⟨b_r_5, nz_r_5⟩ := h_r_5
  have b_r_5 : (0 : Int) ≤ r_5.toInt ∧ r_5.toInt ≤ 1 := b_r_5
  refine lv_if_eq (tgt := 23) hx hb dX9_nth_8 (by decide) (fun c_6 => ?_) (fun c_6 => ?_)
  ·
    have n_c_6 : (r_5.toInt : Int) = 0 := c_eq rfl (by decide) c_6
    have b_r_5 : (0 : Int) ≤ r_5.toInt ∧ r_5.toInt ≤ 0 := r_eq1 b_r_5 (by decide : (0 : Int) ≤ (0 : Int32).toInt ∧ (0 : Int32).toInt ≤ 0) n_c_6 (by decide)
    refine lv_bipush (v := (-2)) hx hb dX9_nth_23 (by decide) ?_
    exact W.iret (v := (-2)) hx hb hr (fun t ht hW => ⟨(-2), rfl, (rg_w (by decide : (-2 : Int) ≤ ((-2) : Int32).toInt ∧ ((-2) : Int32).toInt ≤ -2) (by decide) (by decide)), ht⟩) t_nil dX9_nth_25
  ·
    have n_c_6 : (r_5.toInt : Int) ≠ 0 := c_ne rfl (by decide) c_6
    have b_r_5 : (1 : Int) ≤ r_5.toInt ∧ r_5.toInt ≤ 1 := r_ne1 b_r_5 (by decide : (0 : Int) ≤ (0 : Int32).toInt ∧ (0 : Int32).toInt ≤ 0) n_c_6 (by decide)
    obtain ⟨b_a1, g_7⟩ := nz_r_5 c_6
    refine lv_aload_n hx hb dX9_nth_11 rfl (lv_at hl 0 rfl) ?_
    refine va_get (D := (dC, dI)) (ci := 7) (v := .ref cu) (C := RX9) (T := TX9) (N := 10) hx hb hts iX9_nth_X9 hown hK hP 0 rfl rfl 3 (by decide) (hts (.fieldLink RX9 35 "LuckyTicket" "current" "LLuckyTicket$Roll;") (List.mem_of_getElem? (i := 1) rfl)) (fun _ h9 => h9) rfl dX9_nth_12 ?_
    refine lv_iload_n hx hb dX9_nth_15 rfl (lv_at hl 1 rfl) ?_
    refine lv_iload_n hx hb dX9_nth_16 rfl (lv_at hl 2 rfl) ?_
    refine vp_callSi (W.runV (As := [.int a1, .int a2]) (rest := []) ⟨hx, hb, hml, hown, hts⟩ (kX2_pick l dC dI cu ln bs tk lw li fa lu cL nl fl a1 a2 b_ln b_bs b_tk b_lw (by omega)) (cwV 2 hts gX9_nth__X2_pick_V172 rfl rfl rfl hd_yX2_pick ⟨lel 2 2 rfl, lel 46 46 rfl⟩) ⟨pw_fb, rcv_X2 hK hP (q0 := 1) rfl, (pw_use hP hK hN [1, 2] rfl [0] rfl)⟩ rfl rfl hl.1 rfl (lv_room (Nat.le_of_ble_eq_true rfl)) dX9_nth_17 ⟨lel 0 0 rfl, lel 0 0 rfl⟩) (fun r_8 h_r_8 => ?_)
    have b_r_8 := h_r_8
    have b_r_8 : (-1 : Int) ≤ r_8.toInt ∧ r_8.toInt ≤ 19999 := b_r_8
    refine lv_goto (tgt := 25) hx hb dX9_nth_20 (by decide) ?_
    exact W.iret (v := r_8) hx hb hr (fun t ht hW => ⟨r_8, rfl, (rg_w b_r_8 (by decide) (by decide)), ht⟩) t_nil dX9_nth_25
theorem dX9_gap_0 : decode cX9_gap 0 = .ok (.aload_n 0, 1) := by decide +kernel
theorem dX9_gap_1 : decode cX9_gap 1 = .ok (.getfield 35, 3) := by decide +kernel
theorem dX9_gap_4 : decode cX9_gap 4 = .ok (.iload_n 1, 1) := by decide +kernel
theorem dX9_gap_5 : decode cX9_gap 5 = .ok (.invokevirtual 149, 3) := by decide +kernel
theorem dX9_gap_8 : decode cX9_gap 8 = .ok (.ifCond .eq 12, 3) := by decide +kernel
theorem dX9_gap_11 : decode cX9_gap 11 = .ok (.iload_n 2, 1) := by decide +kernel
theorem dX9_gap_12 : decode cX9_gap 12 = .ok (.iconst 0, 1) := by decide +kernel
theorem dX9_gap_13 : decode cX9_gap 13 = .ok (.iconst 1, 1) := by decide +kernel
theorem dX9_gap_14 : decode cX9_gap 14 = .ok (.invokestatic 158, 3) := by decide +kernel
theorem dX9_gap_17 : decode cX9_gap 17 = .ok (.ifCond .ne 6, 3) := by decide +kernel
theorem dX9_gap_20 : decode cX9_gap 20 = .ok (.bipush (-2), 2) := by decide +kernel
theorem dX9_gap_22 : decode cX9_gap 22 = .ok (.ireturn, 1) := by decide +kernel
theorem dX9_gap_23 : decode cX9_gap 23 = .ok (.iconst (-1), 1) := by decide +kernel
theorem dX9_gap_24 : decode cX9_gap 24 = .ok (.istore_n 3, 1) := by decide +kernel
theorem dX9_gap_25 : decode cX9_gap 25 = .ok (.iconst (-1), 1) := by decide +kernel
theorem dX9_gap_26 : decode cX9_gap 26 = .ok (.istore 4, 2) := by decide +kernel
theorem dX9_gap_28 : decode cX9_gap 28 = .ok (.iconst (-1), 1) := by decide +kernel
theorem dX9_gap_29 : decode cX9_gap 29 = .ok (.istore 5, 2) := by decide +kernel
theorem dX9_gap_31 : decode cX9_gap 31 = .ok (.iconst 0, 1) := by decide +kernel
theorem dX9_gap_32 : decode cX9_gap 32 = .ok (.istore 6, 2) := by decide +kernel
theorem dX9_gap_34 : decode cX9_gap 34 = .ok (.iload 6, 2) := by decide +kernel
theorem dX9_gap_36 : decode cX9_gap 36 = .ok (.aload_n 0, 1) := by decide +kernel
theorem dX9_gap_37 : decode cX9_gap 37 = .ok (.getfield 35, 3) := by decide +kernel
theorem dX9_gap_40 : decode cX9_gap 40 = .ok (.getfield 155, 3) := by decide +kernel
theorem dX9_gap_43 : decode cX9_gap 43 = .ok (.if_icmp .ge 52, 3) := by decide +kernel
theorem dX9_gap_46 : decode cX9_gap 46 = .ok (.aload_n 0, 1) := by decide +kernel
theorem dX9_gap_47 : decode cX9_gap 47 = .ok (.getfield 35, 3) := by decide +kernel
theorem dX9_gap_50 : decode cX9_gap 50 = .ok (.iload_n 1, 1) := by decide +kernel
theorem dX9_gap_51 : decode cX9_gap 51 = .ok (.iload 6, 2) := by decide +kernel
theorem dX9_gap_53 : decode cX9_gap 53 = .ok (.invokevirtual 175, 3) := by decide +kernel
theorem dX9_gap_56 : decode cX9_gap 56 = .ok (.ifCond .eq 33, 3) := by decide +kernel
theorem dX9_gap_59 : decode cX9_gap 59 = .ok (.iload_n 3, 1) := by decide +kernel
theorem dX9_gap_60 : decode cX9_gap 60 = .ok (.iconst (-1), 1) := by decide +kernel
theorem dX9_gap_61 : decode cX9_gap 61 = .ok (.if_icmp .eq 25, 3) := by decide +kernel
theorem dX9_gap_64 : decode cX9_gap 64 = .ok (.iload 6, 2) := by decide +kernel
theorem dX9_gap_66 : decode cX9_gap 66 = .ok (.iload_n 3, 1) := by decide +kernel
theorem dX9_gap_67 : decode cX9_gap 67 = .ok (.isub, 1) := by decide +kernel
theorem dX9_gap_68 : decode cX9_gap 68 = .ok (.iconst 1, 1) := by decide +kernel
theorem dX9_gap_69 : decode cX9_gap 69 = .ok (.isub, 1) := by decide +kernel
theorem dX9_gap_70 : decode cX9_gap 70 = .ok (.iload 4, 2) := by decide +kernel
theorem dX9_gap_72 : decode cX9_gap 72 = .ok (.if_icmp .le 14, 3) := by decide +kernel
theorem dX9_gap_75 : decode cX9_gap 75 = .ok (.iload 6, 2) := by decide +kernel
theorem dX9_gap_77 : decode cX9_gap 77 = .ok (.iload_n 3, 1) := by decide +kernel
theorem dX9_gap_78 : decode cX9_gap 78 = .ok (.isub, 1) := by decide +kernel
theorem dX9_gap_79 : decode cX9_gap 79 = .ok (.iconst 1, 1) := by decide +kernel
theorem dX9_gap_80 : decode cX9_gap 80 = .ok (.isub, 1) := by decide +kernel
theorem dX9_gap_81 : decode cX9_gap 81 = .ok (.istore 4, 2) := by decide +kernel
theorem dX9_gap_83 : decode cX9_gap 83 = .ok (.iload_n 3, 1) := by decide +kernel
theorem dX9_gap_84 : decode cX9_gap 84 = .ok (.istore 5, 2) := by decide +kernel
theorem dX9_gap_86 : decode cX9_gap 86 = .ok (.iload 6, 2) := by decide +kernel
theorem dX9_gap_88 : decode cX9_gap 88 = .ok (.istore_n 3, 1) := by decide +kernel
theorem dX9_gap_89 : decode cX9_gap 89 = .ok (.iinc 6 1, 3) := by decide +kernel
theorem dX9_gap_92 : decode cX9_gap 92 = .ok (.goto (-58), 3) := by decide +kernel
theorem dX9_gap_95 : decode cX9_gap 95 = .ok (.iload_n 2, 1) := by decide +kernel
theorem dX9_gap_96 : decode cX9_gap 96 = .ok (.ifCond .ne 8, 3) := by decide +kernel
theorem dX9_gap_99 : decode cX9_gap 99 = .ok (.iload 4, 2) := by decide +kernel
theorem dX9_gap_101 : decode cX9_gap 101 = .ok (.goto 5, 3) := by decide +kernel
theorem dX9_gap_104 : decode cX9_gap 104 = .ok (.iload 5, 2) := by decide +kernel
theorem dX9_gap_106 : decode cX9_gap 106 = .ok (.ireturn, 1) := by decide +kernel
theorem hd_yX9_gap : yX9_gap.cls = RX9 ∧ yX9_gap.cls ≠ "java/lang/invoke/MethodHandle" ∧ yX9_gap.cls ≠ "java/lang/invoke/VarHandle" ∧ (parseMethodDescriptor yX9_gap.desc).map (fun d => d.parameters.length) = some 2 := by decide +kernel
def uX9_gap : List Cond := List.cons (.code yX9_gap cX9_gap 7 (some .int)) (HAppend.hAppend ([.fieldLink RX9 35 "LuckyTicket" "current" "LLuckyTicket$Roll;", .methodLink RX9 149 yX2_hasLaw, .instanceMethod yX2_hasLaw, .selects RX2 yX2_hasLaw yX2_hasLaw, .initialized RX2, .methodLink RX9 158 yX9_isWithin, .static yX9_isWithin, .initialized RX9, .methodLink RX9 175 yX2_isLucky, .instanceMethod yX2_isLucky, .selects RX2 yX2_isLucky yX2_isLucky] : List Cond) (HAppend.hAppend uX2_hasLaw (HAppend.hAppend uX9_isWithin (HAppend.hAppend uX2_isLucky (HAppend.hAppend wsX90 wsX20)))))
theorem iX9_gap_X9 : ∀ w ∈ wsX90, w ∈ uX9_gap := fun _ h => (List.mem_cons_of_mem _ (List.mem_append_right _ (List.mem_append_right _ (List.mem_append_right _ (List.mem_append_right _ (List.mem_append_left _ h))))))
theorem iX9_gap_X2 : ∀ w ∈ wsX20, w ∈ uX9_gap := fun _ h => (List.mem_cons_of_mem _ (List.mem_append_right _ (List.mem_append_right _ (List.mem_append_right _ (List.mem_append_right _ (List.mem_append_right _ h))))))
theorem guX9_gap : GU uX9_gap := gu_cons (gu_app (by decide +kernel) (gu_ap guX2_hasLaw (gu_ap guX9_isWithin (gu_ap guX2_isLucky (gu_ap gws_X9 gws_X2)))))
theorem gX9_gap__X2_hasLaw_V149 : GoodIn uX9_gap (wsV RX9 149 RX2 yX2_hasLaw uX2_hasLaw) := gin_V (List.mem_of_getElem? (i := 2) rfl) (List.mem_of_getElem? (i := 3) rfl) (List.mem_of_getElem? (i := 4) rfl) (List.mem_of_getElem? (i := 5) rfl) (fun _ h => (List.mem_cons_of_mem _ (List.mem_append_right _ (List.mem_append_left _ h)))) guX2_hasLaw
theorem gX9_gap__X9_isWithin_S158 : GoodIn uX9_gap (va_wsS RX9 158 yX9_isWithin uX9_isWithin) := gin_S (List.mem_of_getElem? (i := 6) rfl) (List.mem_of_getElem? (i := 7) rfl) (List.mem_of_getElem? (i := 8) rfl) (fun _ h => (List.mem_cons_of_mem _ (List.mem_append_right _ (List.mem_append_right _ (List.mem_append_left _ h))))) guX9_isWithin
theorem gX9_gap__X2_isLucky_V175 : GoodIn uX9_gap (wsV RX9 175 RX2 yX2_isLucky uX2_isLucky) := gin_V (List.mem_of_getElem? (i := 9) rfl) (List.mem_of_getElem? (i := 10) rfl) (List.mem_of_getElem? (i := 11) rfl) (List.mem_of_getElem? (i := 5) rfl) (fun _ h => (List.mem_cons_of_mem _ (List.mem_append_right _ (List.mem_append_right _ (List.mem_append_right _ (List.mem_append_left _ h)))))) guX2_isLucky
set_option maxHeartbeats 4000000 in
set_option maxRecDepth 100000 in
theorem kX9_gap (l : Launch) (dC : Nat → ClassId) (dI : Nat → Nat → Nat) (h0 : Nat) (tp : Nat) (sc : Nat) (rd : Nat) (cu : Nat) (im : Nat) (ig : Nat) (sl : Nat) (se : Nat) (sm : Nat) (fc : Nat) (ln : Int32) (bs : Int32) (tk : Int32) (lw : Int32) (li : Int32) (fa : Nat) (lu : Nat) (cL : ClassId) (nl : Nat) (fl : Nat → Int32) (a1 : Int32) (a2 : Int32) (b_ln : (0 : Int) ≤ ln.toInt ∧ ln.toInt ≤ 12) (b_bs : (0 : Int) ≤ bs.toInt ∧ bs.toInt ≤ 16) (b_tk : (0 : Int) ≤ tk.toInt ∧ tk.toInt ≤ 20000) (b_lw : (0 : Int) ≤ lw.toInt ∧ lw.toInt ≤ 9) (hl1 : tk.toInt ≤ (nl : Int)) : Met l yX9_gap uX9_gap ({ frames := 1, cells := 0, slots := 0, locals := 22 }) (va_Pc [.ref h0, .int a1, .int a2] (pw (dC, dI) vwCl [(h0, .inr (7, [.ref tp, .ref sc, .ref rd, .ref cu, .ref im, .ref ig, .ref sl, .ref se, .ref sm, .ref fc])), (cu, .inr (1, [.int ln, .int bs, .int tk, .int lw, .int li, .ref fa, .ref lu])), (lu, .inl (cL, nl, .inl fl))] [(cL, .int)])) (vp_Si (fun r => ((-20000 : Int) ≤ r.toInt ∧ r.toInt ≤ 19999))) 0 0 (fun _ => False) := by
  refine Met.ofW (cc := cX9_gap) (maxL := 7) (ret := (some .int)) pn_X9 rfl ?_
  intro p e s m args below meth c s₁ B hml hv
  obtain ⟨rfl, hP, hK, hN⟩ := hv
  have hx := B.exec
  have hb := B.bytes
  have hr := B.returns
  have hts := atoms_spec (ws := uX9_gap) B.pre
  have hown : s.vm.findClass RX9 = some m.cls := hown_of B.named rfl
  have hlocks := B.notSynchronized
  have hl := lv_entry ([.ref h0, .int a1, .int a2]) (n := 7) (Nat.le_of_ble_eq_true rfl)
  rw [lg_entry_eq]
  generalize (lg_sl ([.ref h0, .int a1, .int a2]) ++ List.replicate (7 - (lg_sl ([.ref h0, .int a1, .int a2])).length) Slot.unset).toArray = ls at hl ⊢
  have hl : lv_has ls 7 [(0, .ref h0), (1, .int a1), (2, .int a2)] := hl
  refine lv_aload_n hx hb dX9_gap_0 rfl (lv_at hl 0 rfl) ?_
  refine va_get (D := (dC, dI)) (ci := 7) (v := .ref cu) (C := RX9) (T := TX9) (N := 10) hx hb hts iX9_gap_X9 hown hK hP 0 rfl rfl 3 (by decide) (hts (.fieldLink RX9 35 "LuckyTicket" "current" "LLuckyTicket$Roll;") (List.mem_of_getElem? (i := 1) rfl)) (fun _ h9 => h9) rfl dX9_gap_1 ?_
  refine lv_iload_n hx hb dX9_gap_4 rfl (lv_at hl 1 rfl) ?_
  refine vp_callSi (W.runV (As := [.int a1]) (rest := []) ⟨hx, hb, hml, hown, hts⟩ (kX2_hasLaw l dC dI cu ln bs tk lw li fa lu a1 b_ln b_bs b_tk b_lw) (cwV 1 hts gX9_gap__X2_hasLaw_V149 rfl rfl rfl hd_yX2_hasLaw ⟨lel 1 1 rfl, lel 21 22 rfl⟩) ⟨pw_fb, rcv_X2 hK hP (q0 := 1) rfl, (pw_use hP hK hN [1] rfl [] rfl)⟩ rfl rfl hl.1 rfl (lv_room (Nat.le_of_ble_eq_true rfl)) dX9_gap_5 ⟨lel 0 0 rfl, lel 0 0 rfl⟩) (fun r_883 h_r_883 => ?_)
  obtain ⟨b_r_883, nz_r_883⟩ := h_r_883
  have b_r_883 : (0 : Int) ≤ r_883.toInt ∧ r_883.toInt ≤ 1 := b_r_883
  refine lv_if_eq (tgt := 20) hx hb dX9_gap_8 (by decide) (fun c_884 => ?_) (fun c_884 => ?_)
  ·
    have n_c_884 : (r_883.toInt : Int) = 0 := c_eq rfl (by decide) c_884
    have b_r_883 : (0 : Int) ≤ r_883.toInt ∧ r_883.toInt ≤ 0 := r_eq1 b_r_883 (by decide : (0 : Int) ≤ (0 : Int32).toInt ∧ (0 : Int32).toInt ≤ 0) n_c_884 (by decide)
    refine lv_bipush (v := (-2)) hx hb dX9_gap_20 (by decide) ?_
    exact W.iret (v := (-2)) hx hb hr (fun t ht hW => ⟨(-2), rfl, (rg_w (by decide : (-2 : Int) ≤ ((-2) : Int32).toInt ∧ ((-2) : Int32).toInt ≤ -2) (by decide) (by decide)), ht⟩) t_nil dX9_gap_22
  ·
    have n_c_884 : (r_883.toInt : Int) ≠ 0 := c_ne rfl (by decide) c_884
    have b_r_883 : (1 : Int) ≤ r_883.toInt ∧ r_883.toInt ≤ 1 := r_ne1 b_r_883 (by decide : (0 : Int) ≤ (0 : Int32).toInt ∧ (0 : Int32).toInt ≤ 0) n_c_884 (by decide)
    obtain ⟨b_a1, g_885⟩ := nz_r_883 c_884
    refine lv_iload_n hx hb dX9_gap_11 rfl (lv_at hl 2 rfl) ?_
    refine lv_iconst (v := 0) hx hb dX9_gap_12 (by decide) ?_
    refine lv_iconst (v := 1) hx hb dX9_gap_13 (by decide) ?_
    refine vp_callSi (W.runS (As := [.int a2, .int 0, .int 1]) (rest := []) ⟨hx, hb, hml, hown, hts⟩ (kX9_isWithin l dC dI a2 0 1 ) (va_cwS 3 hts gX9_gap__X9_isWithin_S158 rfl rfl rfl hd_yX9_isWithin.2 ⟨lel 1 1 rfl, lel 22 22 rfl⟩) ⟨pn_fb, pn_use⟩ rfl rfl hl.1 rfl (lv_room (Nat.le_of_ble_eq_true rfl)) dX9_gap_14 ⟨lel 0 0 rfl, lel 0 0 rfl⟩) (fun r_886 h_r_886 => ?_)
    obtain ⟨b_r_886, nz_r_886⟩ := h_r_886
    have b_r_886 : (0 : Int) ≤ r_886.toInt ∧ r_886.toInt ≤ 1 := b_r_886
    refine lv_if_ne (tgt := 23) hx hb dX9_gap_17 (by decide) (fun c_887 => ?_) (fun c_887 => ?_)
    ·
      have n_c_887 : (r_886.toInt : Int) ≠ 0 := c_ne rfl (by decide) c_887
      have b_r_886 : (1 : Int) ≤ r_886.toInt ∧ r_886.toInt ≤ 1 := r_ne1 b_r_886 (by decide : (0 : Int) ≤ (0 : Int32).toInt ∧ (0 : Int32).toInt ≤ 0) n_c_887 (by decide)
      have g_888 := nz_r_886 c_887
      have lt0_g_888 := (by decide : (0 : Int32).toInt = 0)
      have lt1_g_888 := (by decide : (1 : Int32).toInt = 1)
      have b_a2 : (0 : Int) ≤ a2.toInt ∧ a2.toInt ≤ 1 := by
        have q0 := (ti_rng a2)
        have q1 := (by decide : (0 : Int) ≤ (0 : Int32).toInt ∧ (0 : Int32).toInt ≤ 0)
        have q2 := (by decide : (1 : Int) ≤ (1 : Int32).toInt ∧ (1 : Int32).toInt ≤ 1)
        omega
      refine lv_iconst (v := (-1)) hx hb dX9_gap_23 (by decide) ?_
      refine lv_istore_n (lv' := [(3, .int (-1)), (0, .ref h0), (1, .int a1), (2, .int a2)]) hx hb dX9_gap_24 rfl hl (by decide) rfl (fun ls hl => ?_)
      refine lv_iconst (v := (-1)) hx hb dX9_gap_25 (by decide) ?_
      refine lv_istore (lv' := [(4, .int (-1)), (3, .int (-1)), (0, .ref h0), (1, .int a1), (2, .int a2)]) hx hb dX9_gap_26 hl (by decide) rfl (fun ls hl => ?_)
      refine lv_iconst (v := (-1)) hx hb dX9_gap_28 (by decide) ?_
      refine lv_istore (lv' := [(5, .int (-1)), (4, .int (-1)), (3, .int (-1)), (0, .ref h0), (1, .int a1), (2, .int a2)]) hx hb dX9_gap_29 hl (by decide) rfl (fun ls hl => ?_)
      refine lv_iconst (v := 0) hx hb dX9_gap_31 (by decide) ?_
      refine lv_istore (lv' := [(6, .int 0), (5, .int (-1)), (4, .int (-1)), (3, .int (-1)), (0, .ref h0), (1, .int a1), (2, .int a2)]) hx hb dX9_gap_32 hl (by decide) rfl (fun ls hl => ?_)
      refine loopP (σ := Int32 × Int32 × Int32 × Int32) (fun v => (20000 - v.1.toInt).toNat) (fun v ls => ((0 : Int) ≤ v.1.toInt ∧ v.1.toInt ≤ 20000) ∧ ((-1 : Int) ≤ v.2.1.toInt ∧ v.2.1.toInt ≤ 19999) ∧ ((-1 : Int) ≤ v.2.2.1.toInt ∧ v.2.2.1.toInt ≤ 19999) ∧ ((-20000 : Int) ≤ v.2.2.2.toInt ∧ v.2.2.2.toInt ≤ 19999) ∧ lv_has ls 7 [(6, .int v.1), (5, .int v.2.2.1), (4, .int v.2.2.2), (3, .int v.2.1), (0, .ref h0), (1, .int a1), (2, .int a2)]) (fun v ls hI ih_34_1698 => ?_) ((0 : Int32), (-1 : Int32), (-1 : Int32), (-1 : Int32)) ⟨(show (0 : Int) ≤ (0 : Int32).toInt ∧ (0 : Int32).toInt ≤ 20000 from (rg_w (by decide : (0 : Int) ≤ (0 : Int32).toInt ∧ (0 : Int32).toInt ≤ 0) (by decide) (by decide))), (show (-1 : Int) ≤ (-1 : Int32).toInt ∧ (-1 : Int32).toInt ≤ 19999 from (rg_w (by decide : (-1 : Int) ≤ ((-1) : Int32).toInt ∧ ((-1) : Int32).toInt ≤ -1) (by decide) (by decide))), (show (-1 : Int) ≤ (-1 : Int32).toInt ∧ (-1 : Int32).toInt ≤ 19999 from (rg_w (by decide : (-1 : Int) ≤ ((-1) : Int32).toInt ∧ ((-1) : Int32).toInt ≤ -1) (by decide) (by decide))), (show (-20000 : Int) ≤ (-1 : Int32).toInt ∧ (-1 : Int32).toInt ≤ 19999 from (rg_w (by decide : (-1 : Int) ≤ ((-1) : Int32).toInt ∧ ((-1) : Int32).toInt ≤ -1) (by decide) (by decide))), lv_sub hl [0, 1, 2, 3, 4, 5, 6] rfl⟩
      obtain ⟨y_903, y_904, y_971, y_972⟩ := v
      obtain ⟨b_y_903, b_y_904, b_y_971, b_y_972, hl⟩ := hI
      have b_y_903 : (0 : Int) ≤ y_903.toInt ∧ y_903.toInt ≤ 20000 := b_y_903
      have b_y_904 : (-1 : Int) ≤ y_904.toInt ∧ y_904.toInt ≤ 19999 := b_y_904
      have b_y_971 : (-1 : Int) ≤ y_971.toInt ∧ y_971.toInt ≤ 19999 := b_y_971
      have b_y_972 : (-20000 : Int) ≤ y_972.toInt ∧ y_972.toInt ≤ 19999 := b_y_972
      have hl : lv_has ls 7 [(6, .int y_903), (5, .int y_971), (4, .int y_972), (3, .int y_904), (0, .ref h0), (1, .int a1), (2, .int a2)] := hl
      refine lv_iload hx hb dX9_gap_34 (lv_at hl 0 rfl) ?_
      refine lv_aload_n hx hb dX9_gap_36 rfl (lv_at hl 4 rfl) ?_
      refine va_get (D := (dC, dI)) (ci := 7) (v := .ref cu) (C := RX9) (T := TX9) (N := 10) hx hb hts iX9_gap_X9 hown hK hP 0 rfl rfl 3 (by decide) (hts (.fieldLink RX9 35 "LuckyTicket" "current" "LLuckyTicket$Roll;") (List.mem_of_getElem? (i := 1) rfl)) (fun _ h9 => h9) rfl dX9_gap_37 ?_
      refine va_getN (own := RX9) (index := 155) (ref := RX2) (host := RX9) (D := (dC, dI)) (ci := 1) (v := .int tk) (C := RX2) (T := TX2) (N := 7) hx hb hts iX9_gap_X2 hown hK hP 1 rfl rfl 2 (by decide) (va_Nw.use rfl (hN _ (List.mem_of_getElem? (i := 18) rfl))) (fun _ h9 => h9) rfl dX9_gap_40 ?_
      refine lv_icmp_ge (tgt := 95) hx hb dX9_gap_43 (by decide) (fun c_1699 => ?_) (fun c_1699 => ?_)
      ·
        have n_c_1699 : (tk.toInt : Int) ≤ y_903.toInt := c_ge rfl rfl c_1699
        refine lv_iload_n hx hb dX9_gap_95 rfl (lv_at hl 6 rfl) ?_
        refine lv_if_ne (tgt := 104) hx hb dX9_gap_96 (by decide) (fun c_1732 => ?_) (fun c_1732 => ?_)
        ·
          have n_c_1732 : (a2.toInt : Int) ≠ 0 := c_ne rfl (by decide) c_1732
          have b_a2 : (1 : Int) ≤ a2.toInt ∧ a2.toInt ≤ 1 := r_ne1 b_a2 (by decide : (0 : Int) ≤ (0 : Int32).toInt ∧ (0 : Int32).toInt ≤ 0) n_c_1732 (by decide)
          refine lv_iload hx hb dX9_gap_104 (lv_at hl 1 rfl) ?_
          exact W.iret (v := y_971) hx hb hr (fun t ht hW => ⟨y_971, rfl, (rg_w b_y_971 (by decide) (by decide)), ht⟩) t_nil dX9_gap_106
        ·
          have n_c_1732 : (a2.toInt : Int) = 0 := c_eq rfl (by decide) c_1732
          have b_a2 : (0 : Int) ≤ a2.toInt ∧ a2.toInt ≤ 0 := r_eq1 b_a2 (by decide : (0 : Int) ≤ (0 : Int32).toInt ∧ (0 : Int32).toInt ≤ 0) n_c_1732 (by decide)
          refine lv_iload hx hb dX9_gap_99 (lv_at hl 2 rfl) ?_
          refine lv_goto (tgt := 106) hx hb dX9_gap_101 (by decide) ?_
          exact W.iret (v := y_972) hx hb hr (fun t ht hW => ⟨y_972, rfl, b_y_972, ht⟩) t_nil dX9_gap_106
      ·
        have n_c_1699 : (y_903.toInt : Int) < tk.toInt := c_nge rfl rfl c_1699
        have b_y_903 : (0 : Int) ≤ y_903.toInt ∧ y_903.toInt ≤ 19999 := r_lt1 b_y_903 b_tk n_c_1699 (by decide)
        have b_tk : (1 : Int) ≤ tk.toInt ∧ tk.toInt ≤ 20000 := r_lt2 b_y_903 b_tk n_c_1699 (by decide)
        refine lv_aload_n hx hb dX9_gap_46 rfl (lv_at hl 4 rfl) ?_
        refine va_get (D := (dC, dI)) (ci := 7) (v := .ref cu) (C := RX9) (T := TX9) (N := 10) hx hb hts iX9_gap_X9 hown hK hP 0 rfl rfl 3 (by decide) (hts (.fieldLink RX9 35 "LuckyTicket" "current" "LLuckyTicket$Roll;") (List.mem_of_getElem? (i := 1) rfl)) (fun _ h9 => h9) rfl dX9_gap_47 ?_
        refine lv_iload_n hx hb dX9_gap_50 rfl (lv_at hl 5 rfl) ?_
        refine lv_iload hx hb dX9_gap_51 (lv_at hl 0 rfl) ?_
        refine vp_callSi (W.runV (As := [.int a1, .int y_903]) (rest := []) ⟨hx, hb, hml, hown, hts⟩ (kX2_isLucky l dC dI cu ln bs tk lw li fa lu cL nl fl a1 y_903 b_ln b_bs (rg_w b_tk (by decide) (by decide)) b_lw (by omega)) (cwV 2 hts gX9_gap__X2_isLucky_V175 rfl rfl rfl hd_yX2_isLucky ⟨lel 1 1 rfl, lel 22 22 rfl⟩) ⟨pw_fb, rcv_X2 hK hP (q0 := 1) rfl, (pw_use hP hK hN [1, 2] rfl [0] rfl)⟩ rfl rfl hl.1 rfl (lv_room (Nat.le_of_ble_eq_true rfl)) dX9_gap_53 ⟨lel 0 0 rfl, lel 0 0 rfl⟩) (fun r_1733 h_r_1733 => ?_)
        have b_r_1733 := h_r_1733
        have b_r_1733 : (0 : Int) ≤ r_1733.toInt ∧ r_1733.toInt ≤ 1 := b_r_1733
        refine cutP (σ := Int32 × Int32 × Int32) (pc2 := 89) (st2 := fun v => []) (cells2 := 0) (slots2 := 0) (fun v ls => ((-1 : Int) ≤ v.1.toInt ∧ v.1.toInt ≤ 19999) ∧ ((-20000 : Int) ≤ v.2.1.toInt ∧ v.2.1.toInt ≤ 19999) ∧ ((-1 : Int) ≤ v.2.2.toInt ∧ v.2.2.toInt ≤ 19999) ∧ lv_has ls 7 [(6, .int y_903), (5, .int v.1), (4, .int v.2.1), (3, .int v.2.2), (0, .ref h0), (1, .int a1), (2, .int a2)]) (fun v ls hI => ?_) (fun hj_89_1750 => ?_)
        ·
          obtain ⟨y_1748, y_1749, y_1750⟩ := v
          obtain ⟨b_y_1748, b_y_1749, b_y_1750, hl⟩ := hI
          have b_y_1748 : (-1 : Int) ≤ y_1748.toInt ∧ y_1748.toInt ≤ 19999 := b_y_1748
          have b_y_1749 : (-20000 : Int) ≤ y_1749.toInt ∧ y_1749.toInt ≤ 19999 := b_y_1749
          have b_y_1750 : (-1 : Int) ≤ y_1750.toInt ∧ y_1750.toInt ≤ 19999 := b_y_1750
          have hl : lv_has ls 7 [(6, .int y_903), (5, .int y_1748), (4, .int y_1749), (3, .int y_1750), (0, .ref h0), (1, .int a1), (2, .int a2)] := hl
          obtain ⟨z_1751, e_z_1751⟩ : ∃ y : Int32, y = y_903 + 1 := ⟨_, rfl⟩
          refine lv_iinc (v := z_1751) (lv' := [(6, .int z_1751), (5, .int y_1748), (4, .int y_1749), (3, .int y_1750), (0, .ref h0), (1, .int a1), (2, .int a2)]) hx hb dX9_gap_89 hl (k := 0) rfl (by rw [e_z_1751]; rfl) (by decide) rfl (fun ls hl => ?_)
          obtain ⟨q_z_1751, b_z_1751⟩ := ti_add (lo := 1) (hi := 20000) e_z_1751 rfl (by decide : (1 : Int32).toInt = 1) b_y_903 (by decide : (1 : Int) ≤ (1 : Int32).toInt ∧ (1 : Int32).toInt ≤ 1) (by decide)
          refine lv_goto (tgt := 34) hx hb dX9_gap_92 (by decide) ?_
          exact ih_34_1698 (z_1751, y_1750, y_1748, y_1749) _ ⟨(show (0 : Int) ≤ z_1751.toInt ∧ z_1751.toInt ≤ 20000 from (rg_w b_z_1751 (by decide) (by decide))), (show (-1 : Int) ≤ y_1750.toInt ∧ y_1750.toInt ≤ 19999 from b_y_1750), (show (-1 : Int) ≤ y_1748.toInt ∧ y_1748.toInt ≤ 19999 from b_y_1748), (show (-20000 : Int) ≤ y_1749.toInt ∧ y_1749.toInt ≤ 19999 from b_y_1749), lv_sub hl [0, 1, 2, 3, 4, 5, 6] rfl⟩ (show (20000 - z_1751.toInt).toNat < (20000 - y_903.toInt).toNat by omega)
        ·
          refine lv_if_eq (tgt := 89) hx hb dX9_gap_56 (by decide) (fun c_1734 => ?_) (fun c_1734 => ?_)
          ·
            have n_c_1734 : (r_1733.toInt : Int) = 0 := c_eq rfl (by decide) c_1734
            have b_r_1733 : (0 : Int) ≤ r_1733.toInt ∧ r_1733.toInt ≤ 0 := r_eq1 b_r_1733 (by decide : (0 : Int) ≤ (0 : Int32).toInt ∧ (0 : Int32).toInt ≤ 0) n_c_1734 (by decide)
            exact hj_89_1750 (y_971, y_972, y_904) _ ⟨(show (-1 : Int) ≤ y_971.toInt ∧ y_971.toInt ≤ 19999 from b_y_971), (show (-20000 : Int) ≤ y_972.toInt ∧ y_972.toInt ≤ 19999 from b_y_972), (show (-1 : Int) ≤ y_904.toInt ∧ y_904.toInt ≤ 19999 from b_y_904), lv_sub hl [0, 1, 2, 3, 4, 5, 6] rfl⟩
          ·
            have n_c_1734 : (r_1733.toInt : Int) ≠ 0 := c_ne rfl (by decide) c_1734
            have b_r_1733 : (1 : Int) ≤ r_1733.toInt ∧ r_1733.toInt ≤ 1 := r_ne1 b_r_1733 (by decide : (0 : Int) ≤ (0 : Int32).toInt ∧ (0 : Int32).toInt ≤ 0) n_c_1734 (by decide)
            refine lv_iload_n hx hb dX9_gap_59 rfl (lv_at hl 3 rfl) ?_
            refine lv_iconst (v := (-1)) hx hb dX9_gap_60 (by decide) ?_
            refine cutP (σ := Int32 × Int32) (pc2 := 86) (st2 := fun v => []) (cells2 := 0) (slots2 := 0) (fun v ls => ((-1 : Int) ≤ v.1.toInt ∧ v.1.toInt ≤ 19999) ∧ ((-20000 : Int) ≤ v.2.toInt ∧ v.2.toInt ≤ 19999) ∧ lv_has ls 7 [(6, .int y_903), (5, .int v.1), (4, .int v.2), (3, .int y_904), (0, .ref h0), (1, .int a1), (2, .int a2)]) (fun v ls hI => ?_) (fun hj_86_1759 => ?_)
            ·
              obtain ⟨y_1758, y_1759⟩ := v
              obtain ⟨b_y_1758, b_y_1759, hl⟩ := hI
              have b_y_1758 : (-1 : Int) ≤ y_1758.toInt ∧ y_1758.toInt ≤ 19999 := b_y_1758
              have b_y_1759 : (-20000 : Int) ≤ y_1759.toInt ∧ y_1759.toInt ≤ 19999 := b_y_1759
              have hl : lv_has ls 7 [(6, .int y_903), (5, .int y_1758), (4, .int y_1759), (3, .int y_904), (0, .ref h0), (1, .int a1), (2, .int a2)] := hl
              refine lv_iload hx hb dX9_gap_86 (lv_at hl 0 rfl) ?_
              refine lv_istore_n (lv' := [(3, .int y_903), (6, .int y_903), (5, .int y_1758), (4, .int y_1759), (0, .ref h0), (1, .int a1), (2, .int a2)]) hx hb dX9_gap_88 rfl hl (by decide) rfl (fun ls hl => ?_)
              exact hj_89_1750 (y_1758, y_1759, y_903) _ ⟨(show (-1 : Int) ≤ y_1758.toInt ∧ y_1758.toInt ≤ 19999 from b_y_1758), (show (-20000 : Int) ≤ y_1759.toInt ∧ y_1759.toInt ≤ 19999 from b_y_1759), (show (-1 : Int) ≤ y_903.toInt ∧ y_903.toInt ≤ 19999 from (rg_w b_y_903 (by decide) (by decide))), lv_sub hl [1, 2, 3, 0, 4, 5, 6] rfl⟩
            ·
              refine lv_icmp_eq (tgt := 86) hx hb dX9_gap_61 (by decide) (fun c_1752 => ?_) (fun c_1752 => ?_)
              ·
                have n_c_1752 : (y_904.toInt : Int) = (-1) := c_eq rfl (by decide) c_1752
                have b_y_904 : (-1 : Int) ≤ y_904.toInt ∧ y_904.toInt ≤ -1 := r_eq1 b_y_904 (by decide : (-1 : Int) ≤ ((-1) : Int32).toInt ∧ ((-1) : Int32).toInt ≤ -1) n_c_1752 (by decide)
                exact hj_86_1759 (y_971, y_972) _ ⟨(show (-1 : Int) ≤ y_971.toInt ∧ y_971.toInt ≤ 19999 from b_y_971), (show (-20000 : Int) ≤ y_972.toInt ∧ y_972.toInt ≤ 19999 from b_y_972), lv_sub hl [0, 1, 2, 3, 4, 5, 6] rfl⟩
              ·
                have n_c_1752 : (y_904.toInt : Int) ≠ (-1) := c_ne rfl (by decide) c_1752
                have b_y_904 : (0 : Int) ≤ y_904.toInt ∧ y_904.toInt ≤ 19999 := r_ne1 b_y_904 (by decide : (-1 : Int) ≤ ((-1) : Int32).toInt ∧ ((-1) : Int32).toInt ≤ -1) n_c_1752 (by decide)
                refine lv_iload hx hb dX9_gap_64 (lv_at hl 0 rfl) ?_
                refine lv_iload_n hx hb dX9_gap_66 rfl (lv_at hl 3 rfl) ?_
                refine lv_isub hx hb dX9_gap_67 ?_
                refine lv_topi (fun z_1760 e_z_1760 => ?_)
                obtain ⟨q_z_1760, b_z_1760⟩ := ti_sub (lo := -19999) (hi := 19999) e_z_1760 rfl rfl b_y_903 b_y_904 (by decide)
                refine lv_iconst (v := 1) hx hb dX9_gap_68 (by decide) ?_
                refine lv_isub hx hb dX9_gap_69 ?_
                refine lv_topi (fun z_1761 e_z_1761 => ?_)
                obtain ⟨q_z_1761, b_z_1761⟩ := ti_sub (lo := -20000) (hi := 19998) e_z_1761 rfl (by decide : (1 : Int32).toInt = 1) b_z_1760 (by decide : (1 : Int) ≤ (1 : Int32).toInt ∧ (1 : Int32).toInt ≤ 1) (by decide)
                refine lv_iload hx hb dX9_gap_70 (lv_at hl 2 rfl) ?_
                refine lv_icmp_le (tgt := 86) hx hb dX9_gap_72 (by decide) (fun c_1762 => ?_) (fun c_1762 => ?_)
                ·
                  have n_c_1762 : (z_1761.toInt : Int) ≤ y_972.toInt := c_le rfl rfl c_1762
                  exact hj_86_1759 (y_971, y_972) _ ⟨(show (-1 : Int) ≤ y_971.toInt ∧ y_971.toInt ≤ 19999 from b_y_971), (show (-20000 : Int) ≤ y_972.toInt ∧ y_972.toInt ≤ 19999 from b_y_972), lv_sub hl [0, 1, 2, 3, 4, 5, 6] rfl⟩
                ·
                  have n_c_1762 : (y_972.toInt : Int) < z_1761.toInt := c_nle rfl rfl c_1762
                  have b_y_972 : (-20000 : Int) ≤ y_972.toInt ∧ y_972.toInt ≤ 19997 := r_lt1 b_y_972 b_z_1761 n_c_1762 (by decide)
                  have b_z_1761 : (-19999 : Int) ≤ z_1761.toInt ∧ z_1761.toInt ≤ 19998 := r_lt2 b_y_972 b_z_1761 n_c_1762 (by decide)
                  refine lv_iload hx hb dX9_gap_75 (lv_at hl 0 rfl) ?_
                  refine lv_iload_n hx hb dX9_gap_77 rfl (lv_at hl 3 rfl) ?_
                  refine lv_isub hx hb dX9_gap_78 ?_
                  refine lv_topi (fun z_1763 e_z_1763 => ?_)
                  obtain ⟨q_z_1763, b_z_1763⟩ := ti_sub (lo := -19999) (hi := 19999) e_z_1763 rfl rfl b_y_903 b_y_904 (by decide)
                  refine lv_iconst (v := 1) hx hb dX9_gap_79 (by decide) ?_
                  refine lv_isub hx hb dX9_gap_80 ?_
                  refine lv_topi (fun z_1764 e_z_1764 => ?_)
                  obtain ⟨q_z_1764, b_z_1764⟩ := ti_sub (lo := -20000) (hi := 19998) e_z_1764 rfl (by decide : (1 : Int32).toInt = 1) b_z_1763 (by decide : (1 : Int) ≤ (1 : Int32).toInt ∧ (1 : Int32).toInt ≤ 1) (by decide)
                  refine lv_istore (lv' := [(4, .int z_1764), (6, .int y_903), (5, .int y_971), (3, .int y_904), (0, .ref h0), (1, .int a1), (2, .int a2)]) hx hb dX9_gap_81 hl (by decide) rfl (fun ls hl => ?_)
                  refine lv_iload_n hx hb dX9_gap_83 rfl (lv_at hl 3 rfl) ?_
                  refine lv_istore (lv' := [(5, .int y_904), (4, .int z_1764), (6, .int y_903), (3, .int y_904), (0, .ref h0), (1, .int a1), (2, .int a2)]) hx hb dX9_gap_84 hl (by decide) rfl (fun ls hl => ?_)
                  exact hj_86_1759 (y_904, z_1764) _ ⟨(show (-1 : Int) ≤ y_904.toInt ∧ y_904.toInt ≤ 19999 from (rg_w b_y_904 (by decide) (by decide))), (show (-20000 : Int) ≤ z_1764.toInt ∧ z_1764.toInt ≤ 19999 from (rg_w b_z_1764 (by decide) (by decide))), lv_sub hl [2, 0, 1, 3, 4, 5, 6] rfl⟩
    ·
      have n_c_887 : (r_886.toInt : Int) = 0 := c_eq rfl (by decide) c_887
      have b_r_886 : (0 : Int) ≤ r_886.toInt ∧ r_886.toInt ≤ 0 := r_eq1 b_r_886 (by decide : (0 : Int) ≤ (0 : Int32).toInt ∧ (0 : Int32).toInt ≤ 0) n_c_887 (by decide)
      refine lv_bipush (v := (-2)) hx hb dX9_gap_20 (by decide) ?_
      exact W.iret (v := (-2)) hx hb hr (fun t ht hW => ⟨(-2), rfl, (rg_w (by decide : (-2 : Int) ≤ ((-2) : Int32).toInt ∧ ((-2) : Int32).toInt ≤ -2) (by decide) (by decide)), ht⟩) t_nil dX9_gap_22
theorem dX9_waits_0 : decode cX9_waits 0 = .ok (.aload_n 0, 1) := by decide +kernel
theorem dX9_waits_1 : decode cX9_waits 1 = .ok (.iload_n 1, 1) := by decide +kernel
theorem dX9_waits_2 : decode cX9_waits 2 = .ok (.iload_n 2, 1) := by decide +kernel
theorem dX9_waits_3 : decode cX9_waits 3 = .ok (.invokevirtual 137, 3) := by decide +kernel
theorem dX9_waits_6 : decode cX9_waits 6 = .ok (.ifCond .eq 10, 3) := by decide +kernel
theorem dX9_waits_9 : decode cX9_waits 9 = .ok (.iload_n 3, 1) := by decide +kernel
theorem dX9_waits_10 : decode cX9_waits 10 = .ok (.invokestatic 178, 3) := by decide +kernel
theorem dX9_waits_13 : decode cX9_waits 13 = .ok (.ifCond .ne 6, 3) := by decide +kernel
theorem dX9_waits_16 : decode cX9_waits 16 = .ok (.bipush (-2), 2) := by decide +kernel
theorem dX9_waits_18 : decode cX9_waits 18 = .ok (.ireturn, 1) := by decide +kernel
theorem dX9_waits_19 : decode cX9_waits 19 = .ok (.iload_n 2, 1) := by decide +kernel
theorem dX9_waits_20 : decode cX9_waits 20 = .ok (.istore 4, 2) := by decide +kernel
theorem dX9_waits_22 : decode cX9_waits 22 = .ok (.iconst 1, 1) := by decide +kernel
theorem dX9_waits_23 : decode cX9_waits 23 = .ok (.istore 5, 2) := by decide +kernel
theorem dX9_waits_25 : decode cX9_waits 25 = .ok (.iload 5, 2) := by decide +kernel
theorem dX9_waits_27 : decode cX9_waits 27 = .ok (.aload_n 0, 1) := by decide +kernel
theorem dX9_waits_28 : decode cX9_waits 28 = .ok (.getfield 35, 3) := by decide +kernel
theorem dX9_waits_31 : decode cX9_waits 31 = .ok (.getfield 155, 3) := by decide +kernel
theorem dX9_waits_34 : decode cX9_waits 34 = .ok (.if_icmp .gt 37, 3) := by decide +kernel
theorem dX9_waits_37 : decode cX9_waits 37 = .ok (.aload_n 0, 1) := by decide +kernel
theorem dX9_waits_38 : decode cX9_waits 38 = .ok (.getfield 35, 3) := by decide +kernel
theorem dX9_waits_41 : decode cX9_waits 41 = .ok (.iload 4, 2) := by decide +kernel
theorem dX9_waits_43 : decode cX9_waits 43 = .ok (.iload_n 3, 1) := by decide +kernel
theorem dX9_waits_44 : decode cX9_waits 44 = .ok (.invokevirtual 181, 3) := by decide +kernel
theorem dX9_waits_47 : decode cX9_waits 47 = .ok (.istore 4, 2) := by decide +kernel
theorem dX9_waits_49 : decode cX9_waits 49 = .ok (.aload_n 0, 1) := by decide +kernel
theorem dX9_waits_50 : decode cX9_waits 50 = .ok (.getfield 35, 3) := by decide +kernel
theorem dX9_waits_53 : decode cX9_waits 53 = .ok (.iload_n 1, 1) := by decide +kernel
theorem dX9_waits_54 : decode cX9_waits 54 = .ok (.iload 4, 2) := by decide +kernel
theorem dX9_waits_56 : decode cX9_waits 56 = .ok (.invokevirtual 175, 3) := by decide +kernel
theorem dX9_waits_59 : decode cX9_waits 59 = .ok (.ifCond .eq 6, 3) := by decide +kernel
theorem dX9_waits_62 : decode cX9_waits 62 = .ok (.iload 5, 2) := by decide +kernel
theorem dX9_waits_64 : decode cX9_waits 64 = .ok (.ireturn, 1) := by decide +kernel
theorem dX9_waits_65 : decode cX9_waits 65 = .ok (.iinc 5 1, 3) := by decide +kernel
theorem dX9_waits_68 : decode cX9_waits 68 = .ok (.goto (-43), 3) := by decide +kernel
theorem dX9_waits_71 : decode cX9_waits 71 = .ok (.iconst (-1), 1) := by decide +kernel
theorem dX9_waits_72 : decode cX9_waits 72 = .ok (.ireturn, 1) := by decide +kernel
theorem hd_yX9_waits : yX9_waits.cls = RX9 ∧ yX9_waits.cls ≠ "java/lang/invoke/MethodHandle" ∧ yX9_waits.cls ≠ "java/lang/invoke/VarHandle" ∧ (parseMethodDescriptor yX9_waits.desc).map (fun d => d.parameters.length) = some 3 := by decide +kernel
def uX9_waits : List Cond := List.cons (.code yX9_waits cX9_waits 6 (some .int)) (HAppend.hAppend ([.methodLink RX9 137 yX9_hasBoth, .instanceMethod yX9_hasBoth, .selects RX9 yX9_hasBoth yX9_hasBoth, .initialized RX9, .methodLink RX9 178 yX9_isStep, .static yX9_isStep, .fieldLink RX9 35 "LuckyTicket" "current" "LLuckyTicket$Roll;", .methodLink RX9 181 yX2_onward, .instanceMethod yX2_onward, .selects RX2 yX2_onward yX2_onward, .initialized RX2, .methodLink RX9 175 yX2_isLucky, .instanceMethod yX2_isLucky, .selects RX2 yX2_isLucky yX2_isLucky] : List Cond) (HAppend.hAppend uX9_hasBoth (HAppend.hAppend uX9_isStep (HAppend.hAppend uX2_onward (HAppend.hAppend uX2_isLucky (HAppend.hAppend wsX90 wsX20))))))
theorem iX9_waits_X9 : ∀ w ∈ wsX90, w ∈ uX9_waits := fun _ h => (List.mem_cons_of_mem _ (List.mem_append_right _ (List.mem_append_right _ (List.mem_append_right _ (List.mem_append_right _ (List.mem_append_right _ (List.mem_append_left _ h)))))))
theorem iX9_waits_X2 : ∀ w ∈ wsX20, w ∈ uX9_waits := fun _ h => (List.mem_cons_of_mem _ (List.mem_append_right _ (List.mem_append_right _ (List.mem_append_right _ (List.mem_append_right _ (List.mem_append_right _ (List.mem_append_right _ h)))))))
theorem guX9_waits : GU uX9_waits := gu_cons (gu_app (by decide +kernel) (gu_ap guX9_hasBoth (gu_ap guX9_isStep (gu_ap guX2_onward (gu_ap guX2_isLucky (gu_ap gws_X9 gws_X2))))))
theorem gX9_waits__X9_hasBoth_V137 : GoodIn uX9_waits (wsV RX9 137 RX9 yX9_hasBoth uX9_hasBoth) := gin_V (List.mem_of_getElem? (i := 1) rfl) (List.mem_of_getElem? (i := 2) rfl) (List.mem_of_getElem? (i := 3) rfl) (List.mem_of_getElem? (i := 4) rfl) (fun _ h => (List.mem_cons_of_mem _ (List.mem_append_right _ (List.mem_append_left _ h)))) guX9_hasBoth
theorem gX9_waits__X9_isStep_S178 : GoodIn uX9_waits (va_wsS RX9 178 yX9_isStep uX9_isStep) := gin_S (List.mem_of_getElem? (i := 5) rfl) (List.mem_of_getElem? (i := 6) rfl) (List.mem_of_getElem? (i := 4) rfl) (fun _ h => (List.mem_cons_of_mem _ (List.mem_append_right _ (List.mem_append_right _ (List.mem_append_left _ h))))) guX9_isStep
theorem gX9_waits__X2_onward_V181 : GoodIn uX9_waits (wsV RX9 181 RX2 yX2_onward uX2_onward) := gin_V (List.mem_of_getElem? (i := 8) rfl) (List.mem_of_getElem? (i := 9) rfl) (List.mem_of_getElem? (i := 10) rfl) (List.mem_of_getElem? (i := 11) rfl) (fun _ h => (List.mem_cons_of_mem _ (List.mem_append_right _ (List.mem_append_right _ (List.mem_append_right _ (List.mem_append_left _ h)))))) guX2_onward
theorem gX9_waits__X2_isLucky_V175 : GoodIn uX9_waits (wsV RX9 175 RX2 yX2_isLucky uX2_isLucky) := gin_V (List.mem_of_getElem? (i := 12) rfl) (List.mem_of_getElem? (i := 13) rfl) (List.mem_of_getElem? (i := 14) rfl) (List.mem_of_getElem? (i := 11) rfl) (fun _ h => (List.mem_cons_of_mem _ (List.mem_append_right _ (List.mem_append_right _ (List.mem_append_right _ (List.mem_append_right _ (List.mem_append_left _ h))))))) guX2_isLucky
set_option maxHeartbeats 4000000 in
set_option maxRecDepth 100000 in
theorem kX9_waits (l : Launch) (dC : Nat → ClassId) (dI : Nat → Nat → Nat) (h0 : Nat) (tp : Nat) (sc : Nat) (rd : Nat) (cu : Nat) (im : Nat) (ig : Nat) (sl : Nat) (se : Nat) (sm : Nat) (fc : Nat) (ln : Int32) (bs : Int32) (tk : Int32) (lw : Int32) (li : Int32) (fa : Nat) (lu : Nat) (cL : ClassId) (nl : Nat) (fl : Nat → Int32) (a1 : Int32) (a2 : Int32) (a3 : Int32) (b_ln : (0 : Int) ≤ ln.toInt ∧ ln.toInt ≤ 12) (b_bs : (0 : Int) ≤ bs.toInt ∧ bs.toInt ≤ 16) (b_tk : (0 : Int) ≤ tk.toInt ∧ tk.toInt ≤ 20000) (b_lw : (0 : Int) ≤ lw.toInt ∧ lw.toInt ≤ 9) (hl1 : tk.toInt ≤ (nl : Int)) : Met l yX9_waits uX9_waits ({ frames := 2, cells := 0, slots := 0, locals := 43 }) (va_Pc [.ref h0, .int a1, .int a2, .int a3] (pw (dC, dI) vwCl [(h0, .inr (7, [.ref tp, .ref sc, .ref rd, .ref cu, .ref im, .ref ig, .ref sl, .ref se, .ref sm, .ref fc])), (cu, .inr (1, [.int ln, .int bs, .int tk, .int lw, .int li, .ref fa, .ref lu])), (lu, .inl (cL, nl, .inl fl))] [(cL, .int)])) (vp_Si (fun r => ((-2 : Int) ≤ r.toInt ∧ r.toInt ≤ 20000))) 0 0 (fun _ => False) := by
  refine Met.ofW (cc := cX9_waits) (maxL := 6) (ret := (some .int)) pn_X9 rfl ?_
  intro p e s m args below meth c s₁ B hml hv
  obtain ⟨rfl, hP, hK, hN⟩ := hv
  have hx := B.exec
  have hb := B.bytes
  have hr := B.returns
  have hts := atoms_spec (ws := uX9_waits) B.pre
  have hown : s.vm.findClass RX9 = some m.cls := hown_of B.named rfl
  have hlocks := B.notSynchronized
  have hl := lv_entry ([.ref h0, .int a1, .int a2, .int a3]) (n := 6) (Nat.le_of_ble_eq_true rfl)
  rw [lg_entry_eq]
  generalize (lg_sl ([.ref h0, .int a1, .int a2, .int a3]) ++ List.replicate (6 - (lg_sl ([.ref h0, .int a1, .int a2, .int a3])).length) Slot.unset).toArray = ls at hl ⊢
  have hl : lv_has ls 6 [(0, .ref h0), (1, .int a1), (2, .int a2), (3, .int a3)] := hl
  refine lv_aload_n hx hb dX9_waits_0 rfl (lv_at hl 0 rfl) ?_
  refine lv_iload_n hx hb dX9_waits_1 rfl (lv_at hl 1 rfl) ?_
  refine lv_iload_n hx hb dX9_waits_2 rfl (lv_at hl 2 rfl) ?_
  refine vp_callSi (W.runV (As := [.int a1, .int a2]) (rest := []) ⟨hx, hb, hml, hown, hts⟩ (kX9_hasBoth l dC dI h0 tp sc rd cu im ig sl se sm fc ln bs tk lw li fa lu a1 a2 b_ln b_bs b_tk b_lw) (cwV 2 hts gX9_waits__X9_hasBoth_V137 rfl rfl rfl hd_yX9_hasBoth ⟨lel 2 2 rfl, lel 43 43 rfl⟩) ⟨pw_fb, rcv_X9 hK hP (q0 := 0) rfl, (pw_use hP hK hN [0, 1] rfl [] rfl)⟩ rfl rfl hl.1 rfl (lv_room (Nat.le_of_ble_eq_true rfl)) dX9_waits_3 ⟨lel 0 0 rfl, lel 0 0 rfl⟩) (fun r_84 h_r_84 => ?_)
  obtain ⟨b_r_84, nz_r_84⟩ := h_r_84
  have b_r_84 : (0 : Int) ≤ r_84.toInt ∧ r_84.toInt ≤ 1 := b_r_84
  refine lv_if_eq (tgt := 16) hx hb dX9_waits_6 (by decide) (fun c_85 => ?_) (fun c_85 => ?_)
  ·
    have n_c_85 : (r_84.toInt : Int) = 0 := c_eq rfl (by decide) c_85
    have b_r_84 : (0 : Int) ≤ r_84.toInt ∧ r_84.toInt ≤ 0 := r_eq1 b_r_84 (by decide : (0 : Int) ≤ (0 : Int32).toInt ∧ (0 : Int32).toInt ≤ 0) n_c_85 (by decide)
    refine lv_bipush (v := (-2)) hx hb dX9_waits_16 (by decide) ?_
    exact W.iret (v := (-2)) hx hb hr (fun t ht hW => ⟨(-2), rfl, (rg_w (by decide : (-2 : Int) ≤ ((-2) : Int32).toInt ∧ ((-2) : Int32).toInt ≤ -2) (by decide) (by decide)), ht⟩) t_nil dX9_waits_18
  ·
    have n_c_85 : (r_84.toInt : Int) ≠ 0 := c_ne rfl (by decide) c_85
    have b_r_84 : (1 : Int) ≤ r_84.toInt ∧ r_84.toInt ≤ 1 := r_ne1 b_r_84 (by decide : (0 : Int) ≤ (0 : Int32).toInt ∧ (0 : Int32).toInt ≤ 0) n_c_85 (by decide)
    obtain ⟨b_a1, b_a2, g_86⟩ := nz_r_84 c_85
    refine lv_iload_n hx hb dX9_waits_9 rfl (lv_at hl 3 rfl) ?_
    refine vp_callSi (W.runS (As := [.int a3]) (rest := []) ⟨hx, hb, hml, hown, hts⟩ (kX9_isStep l dC dI a3 ) (va_cwS 1 hts gX9_waits__X9_isStep_S178 rfl rfl rfl hd_yX9_isStep.2 ⟨lel 2 2 rfl, lel 42 43 rfl⟩) ⟨pn_fb, pn_use⟩ rfl rfl hl.1 rfl (lv_room (Nat.le_of_ble_eq_true rfl)) dX9_waits_10 ⟨lel 0 0 rfl, lel 0 0 rfl⟩) (fun r_87 h_r_87 => ?_)
    obtain ⟨b_r_87, nz_r_87⟩ := h_r_87
    have b_r_87 : (0 : Int) ≤ r_87.toInt ∧ r_87.toInt ≤ 1 := b_r_87
    refine lv_if_ne (tgt := 19) hx hb dX9_waits_13 (by decide) (fun c_88 => ?_) (fun c_88 => ?_)
    ·
      have n_c_88 : (r_87.toInt : Int) ≠ 0 := c_ne rfl (by decide) c_88
      have b_r_87 : (1 : Int) ≤ r_87.toInt ∧ r_87.toInt ≤ 1 := r_ne1 b_r_87 (by decide : (0 : Int) ≤ (0 : Int32).toInt ∧ (0 : Int32).toInt ≤ 0) n_c_88 (by decide)
      obtain ⟨b_a3, g_89⟩ := nz_r_87 c_88
      refine lv_iload_n hx hb dX9_waits_19 rfl (lv_at hl 2 rfl) ?_
      refine lv_istore (lv' := [(4, .int a2), (0, .ref h0), (1, .int a1), (2, .int a2), (3, .int a3)]) hx hb dX9_waits_20 hl (by decide) rfl (fun ls hl => ?_)
      refine lv_iconst (v := 1) hx hb dX9_waits_22 (by decide) ?_
      refine lv_istore (lv' := [(5, .int 1), (4, .int a2), (0, .ref h0), (1, .int a1), (2, .int a2), (3, .int a3)]) hx hb dX9_waits_23 hl (by decide) rfl (fun ls hl => ?_)
      refine loopP (σ := Int32 × Int32) (fun v => (20001 - v.1.toInt).toNat) (fun v ls => ((1 : Int) ≤ v.1.toInt ∧ v.1.toInt ≤ 20001) ∧ lv_has ls 6 [(5, .int v.1), (4, .int v.2), (0, .ref h0), (1, .int a1), (2, .int a2), (3, .int a3)]) (fun v ls hI ih_25_161 => ?_) ((1 : Int32), a2) ⟨(show (1 : Int) ≤ (1 : Int32).toInt ∧ (1 : Int32).toInt ≤ 20001 from (rg_w (by decide : (1 : Int) ≤ (1 : Int32).toInt ∧ (1 : Int32).toInt ≤ 1) (by decide) (by decide))), lv_sub hl [0, 1, 2, 3, 4, 5] rfl⟩
      obtain ⟨y_95, y_96⟩ := v
      obtain ⟨b_y_95, hl⟩ := hI
      have b_y_95 : (1 : Int) ≤ y_95.toInt ∧ y_95.toInt ≤ 20001 := b_y_95
      have hl : lv_has ls 6 [(5, .int y_95), (4, .int y_96), (0, .ref h0), (1, .int a1), (2, .int a2), (3, .int a3)] := hl
      refine lv_iload hx hb dX9_waits_25 (lv_at hl 0 rfl) ?_
      refine lv_aload_n hx hb dX9_waits_27 rfl (lv_at hl 2 rfl) ?_
      refine va_get (D := (dC, dI)) (ci := 7) (v := .ref cu) (C := RX9) (T := TX9) (N := 10) hx hb hts iX9_waits_X9 hown hK hP 0 rfl rfl 3 (by decide) (hts (.fieldLink RX9 35 "LuckyTicket" "current" "LLuckyTicket$Roll;") (List.mem_of_getElem? (i := 7) rfl)) (fun _ h9 => h9) rfl dX9_waits_28 ?_
      refine va_getN (own := RX9) (index := 155) (ref := RX2) (host := RX9) (D := (dC, dI)) (ci := 1) (v := .int tk) (C := RX2) (T := TX2) (N := 7) hx hb hts iX9_waits_X2 hown hK hP 1 rfl rfl 2 (by decide) (va_Nw.use rfl (hN _ (List.mem_of_getElem? (i := 18) rfl))) (fun _ h9 => h9) rfl dX9_waits_31 ?_
      refine lv_icmp_gt (tgt := 71) hx hb dX9_waits_34 (by decide) (fun c_162 => ?_) (fun c_162 => ?_)
      ·
        have n_c_162 : (tk.toInt : Int) < y_95.toInt := c_gt rfl rfl c_162
        refine lv_iconst (v := (-1)) hx hb dX9_waits_71 (by decide) ?_
        exact W.iret (v := (-1)) hx hb hr (fun t ht hW => ⟨(-1), rfl, (rg_w (by decide : (-1 : Int) ≤ ((-1) : Int32).toInt ∧ ((-1) : Int32).toInt ≤ -1) (by decide) (by decide)), ht⟩) t_nil dX9_waits_72
      ·
        have n_c_162 : (y_95.toInt : Int) ≤ tk.toInt := c_ngt rfl rfl c_162
        have b_y_95 : (1 : Int) ≤ y_95.toInt ∧ y_95.toInt ≤ 20000 := r_le1 b_y_95 b_tk n_c_162 (by decide)
        have b_tk : (1 : Int) ≤ tk.toInt ∧ tk.toInt ≤ 20000 := r_le2 b_y_95 b_tk n_c_162 (by decide)
        refine lv_aload_n hx hb dX9_waits_37 rfl (lv_at hl 2 rfl) ?_
        refine va_get (D := (dC, dI)) (ci := 7) (v := .ref cu) (C := RX9) (T := TX9) (N := 10) hx hb hts iX9_waits_X9 hown hK hP 0 rfl rfl 3 (by decide) (hts (.fieldLink RX9 35 "LuckyTicket" "current" "LLuckyTicket$Roll;") (List.mem_of_getElem? (i := 7) rfl)) (fun _ h9 => h9) rfl dX9_waits_38 ?_
        refine lv_iload hx hb dX9_waits_41 (lv_at hl 1 rfl) ?_
        refine lv_iload_n hx hb dX9_waits_43 rfl (lv_at hl 5 rfl) ?_
        refine vp_callSi (W.runV (As := [.int y_96, .int a3]) (rest := []) ⟨hx, hb, hml, hown, hts⟩ (kX2_onward l dC dI cu ln bs tk lw li fa lu y_96 a3 b_ln b_bs (rg_w b_tk (by decide) (by decide)) b_lw) (cwV 2 hts gX9_waits__X2_onward_V181 rfl rfl rfl hd_yX2_onward ⟨lel 1 2 rfl, lel 22 43 rfl⟩) ⟨pw_fb, rcv_X2 hK hP (q0 := 1) rfl, (pw_use hP hK hN [1] rfl [] rfl)⟩ rfl rfl hl.1 rfl (lv_room (Nat.le_of_ble_eq_true rfl)) dX9_waits_44 ⟨lel 0 0 rfl, lel 0 0 rfl⟩) (fun r_163 h_r_163 => ?_)
        refine lv_istore (lv' := [(4, .int r_163), (5, .int y_95), (0, .ref h0), (1, .int a1), (2, .int a2), (3, .int a3)]) hx hb dX9_waits_47 hl (by decide) rfl (fun ls hl => ?_)
        refine lv_aload_n hx hb dX9_waits_49 rfl (lv_at hl 2 rfl) ?_
        refine va_get (D := (dC, dI)) (ci := 7) (v := .ref cu) (C := RX9) (T := TX9) (N := 10) hx hb hts iX9_waits_X9 hown hK hP 0 rfl rfl 3 (by decide) (hts (.fieldLink RX9 35 "LuckyTicket" "current" "LLuckyTicket$Roll;") (List.mem_of_getElem? (i := 7) rfl)) (fun _ h9 => h9) rfl dX9_waits_50 ?_
        refine lv_iload_n hx hb dX9_waits_53 rfl (lv_at hl 3 rfl) ?_
        refine lv_iload hx hb dX9_waits_54 (lv_at hl 0 rfl) ?_
        refine vp_callSi (W.runV (As := [.int a1, .int r_163]) (rest := []) ⟨hx, hb, hml, hown, hts⟩ (kX2_isLucky l dC dI cu ln bs tk lw li fa lu cL nl fl a1 r_163 b_ln b_bs (rg_w b_tk (by decide) (by decide)) b_lw (by omega)) (cwV 2 hts gX9_waits__X2_isLucky_V175 rfl rfl rfl hd_yX2_isLucky ⟨lel 1 2 rfl, lel 22 43 rfl⟩) ⟨pw_fb, rcv_X2 hK hP (q0 := 1) rfl, (pw_use hP hK hN [1, 2] rfl [0] rfl)⟩ rfl rfl hl.1 rfl (lv_room (Nat.le_of_ble_eq_true rfl)) dX9_waits_56 ⟨lel 0 0 rfl, lel 0 0 rfl⟩) (fun r_164 h_r_164 => ?_)
        have b_r_164 := h_r_164
        have b_r_164 : (0 : Int) ≤ r_164.toInt ∧ r_164.toInt ≤ 1 := b_r_164
        refine lv_if_eq (tgt := 65) hx hb dX9_waits_59 (by decide) (fun c_165 => ?_) (fun c_165 => ?_)
        ·
          have n_c_165 : (r_164.toInt : Int) = 0 := c_eq rfl (by decide) c_165
          have b_r_164 : (0 : Int) ≤ r_164.toInt ∧ r_164.toInt ≤ 0 := r_eq1 b_r_164 (by decide : (0 : Int) ≤ (0 : Int32).toInt ∧ (0 : Int32).toInt ≤ 0) n_c_165 (by decide)
          obtain ⟨z_166, e_z_166⟩ : ∃ y : Int32, y = y_95 + 1 := ⟨_, rfl⟩
          refine lv_iinc (v := z_166) (lv' := [(5, .int z_166), (4, .int r_163), (0, .ref h0), (1, .int a1), (2, .int a2), (3, .int a3)]) hx hb dX9_waits_65 hl (k := 1) rfl (by rw [e_z_166]; rfl) (by decide) rfl (fun ls hl => ?_)
          obtain ⟨q_z_166, b_z_166⟩ := ti_add (lo := 2) (hi := 20001) e_z_166 rfl (by decide : (1 : Int32).toInt = 1) b_y_95 (by decide : (1 : Int) ≤ (1 : Int32).toInt ∧ (1 : Int32).toInt ≤ 1) (by decide)
          refine lv_goto (tgt := 25) hx hb dX9_waits_68 (by decide) ?_
          exact ih_25_161 (z_166, r_163) _ ⟨(show (1 : Int) ≤ z_166.toInt ∧ z_166.toInt ≤ 20001 from (rg_w b_z_166 (by decide) (by decide))), lv_sub hl [0, 1, 2, 3, 4, 5] rfl⟩ (show (20001 - z_166.toInt).toNat < (20001 - y_95.toInt).toNat by omega)
        ·
          have n_c_165 : (r_164.toInt : Int) ≠ 0 := c_ne rfl (by decide) c_165
          have b_r_164 : (1 : Int) ≤ r_164.toInt ∧ r_164.toInt ≤ 1 := r_ne1 b_r_164 (by decide : (0 : Int) ≤ (0 : Int32).toInt ∧ (0 : Int32).toInt ≤ 0) n_c_165 (by decide)
          refine lv_iload hx hb dX9_waits_62 (lv_at hl 1 rfl) ?_
          exact W.iret (v := y_95) hx hb hr (fun t ht hW => ⟨y_95, rfl, (rg_w b_y_95 (by decide) (by decide)), ht⟩) t_nil dX9_waits_64
    ·
      have n_c_88 : (r_87.toInt : Int) = 0 := c_eq rfl (by decide) c_88
      have b_r_87 : (0 : Int) ≤ r_87.toInt ∧ r_87.toInt ≤ 0 := r_eq1 b_r_87 (by decide : (0 : Int) ≤ (0 : Int32).toInt ∧ (0 : Int32).toInt ≤ 0) n_c_88 (by decide)
      refine lv_bipush (v := (-2)) hx hb dX9_waits_16 (by decide) ?_
      exact W.iret (v := (-2)) hx hb hr (fun t ht hW => ⟨(-2), rfl, (rg_w (by decide : (-2 : Int) ≤ ((-2) : Int32).toInt ∧ ((-2) : Int32).toInt ≤ -2) (by decide) (by decide)), ht⟩) t_nil dX9_waits_18
