theorem dX10_asksRow_0 : decode cX10_asksRow 0 = .ok (.iload_n 1, 1) := by decide +kernel
theorem dX10_asksRow_1 : decode cX10_asksRow 1 = .ok (.invokestatic 369, 3) := by decide +kernel
theorem dX10_asksRow_4 : decode cX10_asksRow 4 = .ok (.ifCond .eq 11, 3) := by decide +kernel
theorem dX10_asksRow_7 : decode cX10_asksRow 7 = .ok (.aload_n 0, 1) := by decide +kernel
theorem dX10_asksRow_8 : decode cX10_asksRow 8 = .ok (.iload_n 2, 1) := by decide +kernel
theorem dX10_asksRow_9 : decode cX10_asksRow 9 = .ok (.invokevirtual 89, 3) := by decide +kernel
theorem dX10_asksRow_12 : decode cX10_asksRow 12 = .ok (.ifCond .ne 6, 3) := by decide +kernel
theorem dX10_asksRow_15 : decode cX10_asksRow 15 = .ok (.bipush (-2), 2) := by decide +kernel
theorem dX10_asksRow_17 : decode cX10_asksRow 17 = .ok (.ireturn, 1) := by decide +kernel
theorem dX10_asksRow_18 : decode cX10_asksRow 18 = .ok (.aload_n 0, 1) := by decide +kernel
theorem dX10_asksRow_19 : decode cX10_asksRow 19 = .ok (.getfield 65, 3) := by decide +kernel
theorem dX10_asksRow_22 : decode cX10_asksRow 22 = .ok (.iload_n 1, 1) := by decide +kernel
theorem dX10_asksRow_23 : decode cX10_asksRow 23 = .ok (.iaload, 1) := by decide +kernel
theorem dX10_asksRow_24 : decode cX10_asksRow 24 = .ok (.iconst (-1), 1) := by decide +kernel
theorem dX10_asksRow_25 : decode cX10_asksRow 25 = .ok (.if_icmp .ne 8, 3) := by decide +kernel
theorem dX10_asksRow_28 : decode cX10_asksRow 28 = .ok (.bipush (-6), 2) := by decide +kernel
theorem dX10_asksRow_30 : decode cX10_asksRow 30 = .ok (.goto 4, 3) := by decide +kernel
theorem dX10_asksRow_33 : decode cX10_asksRow 33 = .ok (.iconst 0, 1) := by decide +kernel
theorem dX10_asksRow_34 : decode cX10_asksRow 34 = .ok (.ireturn, 1) := by decide +kernel
theorem hd_yX10_asksRow : yX10_asksRow.cls = RX10 ∧ yX10_asksRow.cls ≠ "java/lang/invoke/MethodHandle" ∧ yX10_asksRow.cls ≠ "java/lang/invoke/VarHandle" ∧ (parseMethodDescriptor yX10_asksRow.desc).map (fun d => d.parameters.length) = some 2 := by decide +kernel
def uX10_asksRow : List Cond := List.cons (.code yX10_asksRow cX10_asksRow 3 (some .int)) (HAppend.hAppend ([.methodLink RX10 369 yX10_isSlot, .static yX10_isSlot, .initialized RX10, .methodLink RX10 89 yX10_isLaw, .instanceMethod yX10_isLaw, .selects RX10 yX10_isLaw yX10_isLaw, .fieldLink RX10 65 "LuckyTicketModel" "many" "[I"] : List Cond) (HAppend.hAppend uX10_isSlot (HAppend.hAppend uX10_isLaw wsX100)))
theorem iX10_asksRow_X10 : ∀ w ∈ wsX100, w ∈ uX10_asksRow := fun _ h => (List.mem_cons_of_mem _ (List.mem_append_right _ (List.mem_append_right _ (List.mem_append_right _ h))))
theorem guX10_asksRow : GU uX10_asksRow := gu_cons (gu_app (by decide +kernel) (gu_ap guX10_isSlot (gu_ap guX10_isLaw gws_X10)))
theorem gX10_asksRow__X10_isSlot_S369 : GoodIn uX10_asksRow (va_wsS RX10 369 yX10_isSlot uX10_isSlot) := gin_S (List.mem_of_getElem? (i := 1) rfl) (List.mem_of_getElem? (i := 2) rfl) (List.mem_of_getElem? (i := 3) rfl) (fun _ h => (List.mem_cons_of_mem _ (List.mem_append_right _ (List.mem_append_left _ h)))) guX10_isSlot
theorem gX10_asksRow__X10_isLaw_V89 : GoodIn uX10_asksRow (wsV RX10 89 RX10 yX10_isLaw uX10_isLaw) := gin_V (List.mem_of_getElem? (i := 4) rfl) (List.mem_of_getElem? (i := 5) rfl) (List.mem_of_getElem? (i := 6) rfl) (List.mem_of_getElem? (i := 3) rfl) (fun _ h => (List.mem_cons_of_mem _ (List.mem_append_right _ (List.mem_append_right _ (List.mem_append_left _ h))))) guX10_isLaw
set_option maxHeartbeats 4000000 in
set_option maxRecDepth 100000 in
theorem kX10_asksRow (l : Launch) (dC : Nat → ClassId) (dI : Nat → Nat → Nat) (o0 : Nat) (x_th : Int32) (mwo : Nat) (mim : Nat) (mhi : Nat) (mlu : Nat) (mtp : Nat) (x_td : Int32) (mfv : Nat) (x_sz : Int32) (x_at : Int32) (x_fr : Int32) (x_to : Int32) (x_va : Int32) (x_fk : Int32) (x_fp : Int32) (mfr : Nat) (mwt : Nat) (x_wt : Int32) (x_op : Int32) (x_jo : Int32) (mfg : Nat) (mpl : Nat) (x_dr : Int64) (mtm : Nat) (mfa : Nat) (mqu : Nat) (mmo : Nat) (mwy : Nat) (mwn : Nat) (mma : Nat) (mwi : Nat) (mnu : Nat) (mmv : Nat) (c_wo : ClassId) (c_ma : ClassId) (w_wo : Nat → Int32) (w_ma : Nat → Int32) (ln : Int32) (bs : Int32) (tk : Int32) (lw : Int32) (li : Int32) (a1 : Int32) (a2 : Int32) (b_ln : (0 : Int) ≤ ln.toInt ∧ ln.toInt ≤ 12) (b_bs : (0 : Int) ≤ bs.toInt ∧ bs.toInt ≤ 16) (b_tk : (0 : Int) ≤ tk.toInt ∧ tk.toInt ≤ 20000) (b_lw : (0 : Int) ≤ lw.toInt ∧ lw.toInt ≤ 9) (ha_mma : rg w_ma 4 (-1) 60) (hw0 : w_wo 0 = ln) (hw1 : w_wo 1 = bs) (hw2 : w_wo 2 = tk) (hw3 : w_wo 3 = lw) (hw4 : w_wo 4 = li) (hwz : (ln.toInt = 0 ∧ bs.toInt = 0 ∧ tk.toInt = 0 ∧ lw.toInt = 0) ∨ (1 ≤ ln.toInt ∧ 2 ≤ bs.toInt ∧ 1 ≤ tk.toInt)) : Met l yX10_asksRow uX10_asksRow ({ frames := 2, cells := 0, slots := 0, locals := 46 }) (va_Pc [.ref o0, .int a1, .int a2] (pw (dC, dI) vwCl [(o0, .inr (8, [.int x_th, .ref mwo, .ref mim, .ref mhi, .ref mlu, .ref mtp, .int x_td, .ref mfv, .int x_sz, .int x_at, .int x_fr, .int x_to, .int x_va, .int x_fk, .int x_fp, .ref mfr, .ref mwt, .int x_wt, .int x_op, .int x_jo, .ref mfg, .ref mpl, .long x_dr, .ref mtm, .ref mfa, .ref mqu, .ref mmo, .ref mwy, .ref mwn, .ref mma, .ref mwi, .ref mnu, .ref mmv])), (mwo, .inl (c_wo, 1875, .inl w_wo)), (mma, .inl (c_ma, 4, .inl w_ma))] [(c_wo, .int), (c_ma, .int)])) (vp_Si (fun r => ((-6 : Int) ≤ r.toInt ∧ r.toInt ≤ 0) ∧ (r = 0 → ((0 : Int) ≤ a1.toInt ∧ a1.toInt ≤ 3) ∧ ((0 : Int) ≤ a2.toInt ∧ a2.toInt ≤ 8) ∧ (a2.toInt < lw.toInt)))) 0 0 (fun _ => False) := by
  refine Met.ofW (cc := cX10_asksRow) (maxL := 3) (ret := (some .int)) pn_X10 rfl ?_
  intro p e s m args below meth c s₁ B hml hv
  obtain ⟨rfl, hP, hK, hN⟩ := hv
  have hx := B.exec
  have hb := B.bytes
  have hr := B.returns
  have hts := atoms_spec (ws := uX10_asksRow) B.pre
  have hown : s.vm.findClass RX10 = some m.cls := hown_of B.named rfl
  have hlocks := B.notSynchronized
  have hl := lv_entry ([.ref o0, .int a1, .int a2]) (n := 3) (Nat.le_of_ble_eq_true rfl)
  rw [lg_entry_eq]
  generalize (lg_sl ([.ref o0, .int a1, .int a2]) ++ List.replicate (3 - (lg_sl ([.ref o0, .int a1, .int a2])).length) Slot.unset).toArray = ls at hl ⊢
  have hl : lv_has ls 3 [(0, .ref o0), (1, .int a1), (2, .int a2)] := hl
  refine lv_iload_n hx hb dX10_asksRow_0 rfl (lv_at hl 1 rfl) ?_
  refine vp_callSi (W.runS (As := [.int a1]) (rest := []) ⟨hx, hb, hml, hown, hts⟩ (kX10_isSlot l dC dI a1 ) (va_cwS 1 hts gX10_asksRow__X10_isSlot_S369 rfl rfl rfl hd_yX10_isSlot.2 ⟨lel 2 2 rfl, lel 45 46 rfl⟩) ⟨pn_fb, pn_use⟩ rfl rfl hl.1 rfl (lv_room (Nat.le_of_ble_eq_true rfl)) dX10_asksRow_1 ⟨lel 0 0 rfl, lel 0 0 rfl⟩) (fun r_9 h_r_9 => ?_)
  obtain ⟨b_r_9, nz_r_9⟩ := h_r_9
  have b_r_9 : (0 : Int) ≤ r_9.toInt ∧ r_9.toInt ≤ 1 := b_r_9
  refine lv_if_eq (tgt := 15) hx hb dX10_asksRow_4 (by decide) (fun c_10 => ?_) (fun c_10 => ?_)
  ·
    have n_c_10 : (r_9.toInt : Int) = 0 := c_eq rfl (by decide) c_10
    have b_r_9 : (0 : Int) ≤ r_9.toInt ∧ r_9.toInt ≤ 0 := r_eq1 b_r_9 (by decide : (0 : Int) ≤ (0 : Int32).toInt ∧ (0 : Int32).toInt ≤ 0) n_c_10 (by decide)
    refine lv_bipush (v := (-2)) hx hb dX10_asksRow_15 (by decide) ?_
    exact W.iret (v := (-2)) hx hb hr (fun t ht hW => ⟨(-2), rfl, ⟨(rg_w (by decide : (-2 : Int) ≤ ((-2) : Int32).toInt ∧ ((-2) : Int32).toInt ≤ -2) (by decide) (by decide)), (fun h9 => absurd h9 (by decide))⟩, ht⟩) t_nil dX10_asksRow_17
  ·
    have n_c_10 : (r_9.toInt : Int) ≠ 0 := c_ne rfl (by decide) c_10
    have b_r_9 : (1 : Int) ≤ r_9.toInt ∧ r_9.toInt ≤ 1 := r_ne1 b_r_9 (by decide : (0 : Int) ≤ (0 : Int32).toInt ∧ (0 : Int32).toInt ≤ 0) n_c_10 (by decide)
    obtain ⟨b_a1, g_11⟩ := nz_r_9 c_10
    refine lv_aload_n hx hb dX10_asksRow_7 rfl (lv_at hl 0 rfl) ?_
    refine lv_iload_n hx hb dX10_asksRow_8 rfl (lv_at hl 2 rfl) ?_
    refine vp_callSi (W.runV (As := [.int a2]) (rest := []) ⟨hx, hb, hml, hown, hts⟩ (kX10_isLaw l dC dI o0 x_th mwo mim mhi mlu mtp x_td mfv x_sz x_at x_fr x_to x_va x_fk x_fp mfr mwt x_wt x_op x_jo mfg mpl x_dr mtm mfa mqu mmo mwy mwn mma mwi mnu mmv c_wo w_wo ln bs tk lw li a2 b_ln b_bs b_tk b_lw (hw0) (hw1) (hw2) (hw3) (hw4) (hwz)) (cwV 1 hts gX10_asksRow__X10_isLaw_V89 rfl rfl rfl hd_yX10_isLaw ⟨lel 2 2 rfl, lel 46 46 rfl⟩) ⟨pw_fb, rcv_X10 hK hP (q0 := 0) rfl, (pw_use hP hK hN [0, 1] rfl [0] rfl)⟩ rfl rfl hl.1 rfl (lv_room (Nat.le_of_ble_eq_true rfl)) dX10_asksRow_9 ⟨lel 0 0 rfl, lel 0 0 rfl⟩) (fun r_12 h_r_12 => ?_)
    obtain ⟨b_r_12, nz_r_12⟩ := h_r_12
    have b_r_12 : (0 : Int) ≤ r_12.toInt ∧ r_12.toInt ≤ 1 := b_r_12
    refine lv_if_ne (tgt := 18) hx hb dX10_asksRow_12 (by decide) (fun c_13 => ?_) (fun c_13 => ?_)
    ·
      have n_c_13 : (r_12.toInt : Int) ≠ 0 := c_ne rfl (by decide) c_13
      have b_r_12 : (1 : Int) ≤ r_12.toInt ∧ r_12.toInt ≤ 1 := r_ne1 b_r_12 (by decide : (0 : Int) ≤ (0 : Int32).toInt ∧ (0 : Int32).toInt ≤ 0) n_c_13 (by decide)
      obtain ⟨b_a2, g_14⟩ := nz_r_12 c_13
      refine lv_aload_n hx hb dX10_asksRow_18 rfl (lv_at hl 0 rfl) ?_
      refine va_get (D := (dC, dI)) (ci := 8) (v := .ref mma) (C := RX10) (T := TX10) (N := 33) hx hb hts iX10_asksRow_X10 hown hK hP 0 rfl rfl 29 (by decide) (hts (.fieldLink RX10 65 "LuckyTicketModel" "many" "[I") (List.mem_of_getElem? (i := 7) rfl)) (fun _ h9 => h9) rfl dX10_asksRow_19 ?_
      refine lv_iload_n hx hb dX10_asksRow_22 rfl (lv_at hl 1 rfl) ?_
      refine va_iald hx hb hK hP 2 1 rfl rfl (vp_in_b b_a1 (by decide) (by decide)) dX10_asksRow_23 ?_
      refine lv_topi (fun z_15 e_z_15 => ?_)
      have b_z_15 : (-1 : Int) ≤ z_15.toInt ∧ z_15.toInt ≤ 60 := rg_at ha_mma (vp_in_b b_a1 (by decide) (by decide)) e_z_15
      refine lv_iconst (v := (-1)) hx hb dX10_asksRow_24 (by decide) ?_
      refine lv_icmp_ne (tgt := 33) hx hb dX10_asksRow_25 (by decide) (fun c_16 => ?_) (fun c_16 => ?_)
      ·
        have n_c_16 : (z_15.toInt : Int) ≠ (-1) := c_ne rfl (by decide) c_16
        have b_z_15 : (0 : Int) ≤ z_15.toInt ∧ z_15.toInt ≤ 60 := r_ne1 b_z_15 (by decide : (-1 : Int) ≤ ((-1) : Int32).toInt ∧ ((-1) : Int32).toInt ≤ -1) n_c_16 (by decide)
        refine lv_iconst (v := 0) hx hb dX10_asksRow_33 (by decide) ?_
        exact W.iret (v := 0) hx hb hr (fun t ht hW => ⟨0, rfl, ⟨(rg_w (by decide : (0 : Int) ≤ (0 : Int32).toInt ∧ (0 : Int32).toInt ≤ 0) (by decide) (by decide)), (fun _ => ⟨⟨by omega, by omega⟩, ⟨by omega, by omega⟩, (by omega)⟩)⟩, ht⟩) t_nil dX10_asksRow_34
      ·
        have n_c_16 : (z_15.toInt : Int) = (-1) := c_eq rfl (by decide) c_16
        have b_z_15 : (-1 : Int) ≤ z_15.toInt ∧ z_15.toInt ≤ -1 := r_eq1 b_z_15 (by decide : (-1 : Int) ≤ ((-1) : Int32).toInt ∧ ((-1) : Int32).toInt ≤ -1) n_c_16 (by decide)
        refine lv_bipush (v := (-6)) hx hb dX10_asksRow_28 (by decide) ?_
        refine lv_goto (tgt := 34) hx hb dX10_asksRow_30 (by decide) ?_
        exact W.iret (v := (-6)) hx hb hr (fun t ht hW => ⟨(-6), rfl, ⟨(rg_w (by decide : (-6 : Int) ≤ ((-6) : Int32).toInt ∧ ((-6) : Int32).toInt ≤ -6) (by decide) (by decide)), (fun h9 => absurd h9 (by decide))⟩, ht⟩) t_nil dX10_asksRow_34
    ·
      have n_c_13 : (r_12.toInt : Int) = 0 := c_eq rfl (by decide) c_13
      have b_r_12 : (0 : Int) ≤ r_12.toInt ∧ r_12.toInt ≤ 0 := r_eq1 b_r_12 (by decide : (0 : Int) ≤ (0 : Int32).toInt ∧ (0 : Int32).toInt ≤ 0) n_c_13 (by decide)
      refine lv_bipush (v := (-2)) hx hb dX10_asksRow_15 (by decide) ?_
      exact W.iret (v := (-2)) hx hb hr (fun t ht hW => ⟨(-2), rfl, ⟨(rg_w (by decide : (-2 : Int) ≤ ((-2) : Int32).toInt ∧ ((-2) : Int32).toInt ≤ -2) (by decide) (by decide)), (fun h9 => absurd h9 (by decide))⟩, ht⟩) t_nil dX10_asksRow_17
theorem dX10_isLuckyAt_0 : decode cX10_isLuckyAt 0 = .ok (.aload_n 0, 1) := by decide +kernel
theorem dX10_isLuckyAt_1 : decode cX10_isLuckyAt 1 = .ok (.getfield 71, 3) := by decide +kernel
theorem dX10_isLuckyAt_4 : decode cX10_isLuckyAt 4 = .ok (.bipush 60, 2) := by decide +kernel
theorem dX10_isLuckyAt_6 : decode cX10_isLuckyAt 6 = .ok (.iload_n 1, 1) := by decide +kernel
theorem dX10_isLuckyAt_7 : decode cX10_isLuckyAt 7 = .ok (.imul, 1) := by decide +kernel
theorem dX10_isLuckyAt_8 : decode cX10_isLuckyAt 8 = .ok (.iload_n 2, 1) := by decide +kernel
theorem dX10_isLuckyAt_9 : decode cX10_isLuckyAt 9 = .ok (.iadd, 1) := by decide +kernel
theorem dX10_isLuckyAt_10 : decode cX10_isLuckyAt 10 = .ok (.laload, 1) := by decide +kernel
theorem dX10_isLuckyAt_11 : decode cX10_isLuckyAt 11 = .ok (.lstore 4, 2) := by decide +kernel
theorem dX10_isLuckyAt_13 : decode cX10_isLuckyAt 13 = .ok (.aload_n 0, 1) := by decide +kernel
theorem dX10_isLuckyAt_14 : decode cX10_isLuckyAt 14 = .ok (.lload 4, 2) := by decide +kernel
theorem dX10_isLuckyAt_16 : decode cX10_isLuckyAt 16 = .ok (.invokevirtual 93, 3) := by decide +kernel
theorem dX10_isLuckyAt_19 : decode cX10_isLuckyAt 19 = .ok (.ifCond .eq 18, 3) := by decide +kernel
theorem dX10_isLuckyAt_22 : decode cX10_isLuckyAt 22 = .ok (.aload_n 0, 1) := by decide +kernel
theorem dX10_isLuckyAt_23 : decode cX10_isLuckyAt 23 = .ok (.iload_n 3, 1) := by decide +kernel
theorem dX10_isLuckyAt_24 : decode cX10_isLuckyAt 24 = .ok (.lload 4, 2) := by decide +kernel
theorem dX10_isLuckyAt_26 : decode cX10_isLuckyAt 26 = .ok (.l2i, 1) := by decide +kernel
theorem dX10_isLuckyAt_27 : decode cX10_isLuckyAt 27 = .ok (.invokevirtual 316, 3) := by decide +kernel
theorem dX10_isLuckyAt_30 : decode cX10_isLuckyAt 30 = .ok (.ifCond .eq 7, 3) := by decide +kernel
theorem dX10_isLuckyAt_33 : decode cX10_isLuckyAt 33 = .ok (.iconst 1, 1) := by decide +kernel
theorem dX10_isLuckyAt_34 : decode cX10_isLuckyAt 34 = .ok (.goto 4, 3) := by decide +kernel
theorem dX10_isLuckyAt_37 : decode cX10_isLuckyAt 37 = .ok (.iconst 0, 1) := by decide +kernel
theorem dX10_isLuckyAt_38 : decode cX10_isLuckyAt 38 = .ok (.ireturn, 1) := by decide +kernel
theorem hd_yX10_isLuckyAt : yX10_isLuckyAt.cls = RX10 ∧ yX10_isLuckyAt.cls ≠ "java/lang/invoke/MethodHandle" ∧ yX10_isLuckyAt.cls ≠ "java/lang/invoke/VarHandle" ∧ (parseMethodDescriptor yX10_isLuckyAt.desc).map (fun d => d.parameters.length) = some 3 := by decide +kernel
def uX10_isLuckyAt : List Cond := List.cons (.code yX10_isLuckyAt cX10_isLuckyAt 6 (some .boolean)) (HAppend.hAppend ([.fieldLink RX10 71 "LuckyTicketModel" "numbers" "[J", .methodLink RX10 93 yX10_isTicket, .instanceMethod yX10_isTicket, .selects RX10 yX10_isTicket yX10_isTicket, .initialized RX10, .methodLink RX10 316 yX10_isLucky, .instanceMethod yX10_isLucky, .selects RX10 yX10_isLucky yX10_isLucky] : List Cond) (HAppend.hAppend uX10_isTicket (HAppend.hAppend uX10_isLucky wsX100)))
theorem iX10_isLuckyAt_X10 : ∀ w ∈ wsX100, w ∈ uX10_isLuckyAt := fun _ h => (List.mem_cons_of_mem _ (List.mem_append_right _ (List.mem_append_right _ (List.mem_append_right _ h))))
theorem guX10_isLuckyAt : GU uX10_isLuckyAt := gu_cons (gu_app (by decide +kernel) (gu_ap guX10_isTicket (gu_ap guX10_isLucky gws_X10)))
theorem gX10_isLuckyAt__X10_isTicket_V93 : GoodIn uX10_isLuckyAt (wsV RX10 93 RX10 yX10_isTicket uX10_isTicket) := gin_V (List.mem_of_getElem? (i := 2) rfl) (List.mem_of_getElem? (i := 3) rfl) (List.mem_of_getElem? (i := 4) rfl) (List.mem_of_getElem? (i := 5) rfl) (fun _ h => (List.mem_cons_of_mem _ (List.mem_append_right _ (List.mem_append_left _ h)))) guX10_isTicket
theorem gX10_isLuckyAt__X10_isLucky_V316 : GoodIn uX10_isLuckyAt (wsV RX10 316 RX10 yX10_isLucky uX10_isLucky) := gin_V (List.mem_of_getElem? (i := 6) rfl) (List.mem_of_getElem? (i := 7) rfl) (List.mem_of_getElem? (i := 8) rfl) (List.mem_of_getElem? (i := 5) rfl) (fun _ h => (List.mem_cons_of_mem _ (List.mem_append_right _ (List.mem_append_right _ (List.mem_append_left _ h))))) guX10_isLucky
set_option maxHeartbeats 4000000 in
set_option maxRecDepth 100000 in
theorem kX10_isLuckyAt (l : Launch) (dC : Nat → ClassId) (dI : Nat → Nat → Nat) (o0 : Nat) (x_th : Int32) (mwo : Nat) (mim : Nat) (mhi : Nat) (mlu : Nat) (mtp : Nat) (x_td : Int32) (mfv : Nat) (x_sz : Int32) (x_at : Int32) (x_fr : Int32) (x_to : Int32) (x_va : Int32) (x_fk : Int32) (x_fp : Int32) (mfr : Nat) (mwt : Nat) (x_wt : Int32) (x_op : Int32) (x_jo : Int32) (mfg : Nat) (mpl : Nat) (x_dr : Int64) (mtm : Nat) (mfa : Nat) (mqu : Nat) (mmo : Nat) (mwy : Nat) (mwn : Nat) (mma : Nat) (mwi : Nat) (mnu : Nat) (mmv : Nat) (c_wo : ClassId) (c_lu : ClassId) (c_nu : ClassId) (w_wo : Nat → Int32) (w_lu : Nat → Int32) (w_nu : Nat → Int64) (ln : Int32) (bs : Int32) (tk : Int32) (lw : Int32) (li : Int32) (a1 : Int32) (a2 : Int32) (a3 : Int32) (b_ln : (0 : Int) ≤ ln.toInt ∧ ln.toInt ≤ 12) (b_bs : (0 : Int) ≤ bs.toInt ∧ bs.toInt ≤ 16) (b_tk : (0 : Int) ≤ tk.toInt ∧ tk.toInt ≤ 20000) (b_lw : (0 : Int) ≤ lw.toInt ∧ lw.toInt ≤ 9) (b_a1 : (0 : Int) ≤ a1.toInt ∧ a1.toInt ≤ 3) (b_a2 : (0 : Int) ≤ a2.toInt ∧ a2.toInt ≤ 59) (hw0 : w_wo 0 = ln) (hw1 : w_wo 1 = bs) (hw2 : w_wo 2 = tk) (hw3 : w_wo 3 = lw) (hw4 : w_wo 4 = li) (hwz : (ln.toInt = 0 ∧ bs.toInt = 0 ∧ tk.toInt = 0 ∧ lw.toInt = 0) ∨ (1 ≤ ln.toInt ∧ 2 ≤ bs.toInt ∧ 1 ≤ tk.toInt)) : Met l yX10_isLuckyAt uX10_isLuckyAt ({ frames := 2, cells := 0, slots := 0, locals := 47 }) (va_Pc [.ref o0, .int a1, .int a2, .int a3] (pw (dC, dI) vwCl [(o0, .inr (8, [.int x_th, .ref mwo, .ref mim, .ref mhi, .ref mlu, .ref mtp, .int x_td, .ref mfv, .int x_sz, .int x_at, .int x_fr, .int x_to, .int x_va, .int x_fk, .int x_fp, .ref mfr, .ref mwt, .int x_wt, .int x_op, .int x_jo, .ref mfg, .ref mpl, .long x_dr, .ref mtm, .ref mfa, .ref mqu, .ref mmo, .ref mwy, .ref mwn, .ref mma, .ref mwi, .ref mnu, .ref mmv])), (mwo, .inl (c_wo, 1875, .inl w_wo)), (mlu, .inl (c_lu, 20000, .inl w_lu)), (mnu, .inl (c_nu, 240, .inr (.inl w_nu)))] [(c_wo, .int), (c_lu, .int), (c_nu, .long)])) (vp_Si (fun r => ((0 : Int) ≤ r.toInt ∧ r.toInt ≤ 1))) 0 0 (fun _ => False) := by
  refine Met.ofW (cc := cX10_isLuckyAt) (maxL := 6) (ret := (some .boolean)) pn_X10 rfl ?_
  intro p e s m args below meth c s₁ B hml hv
  obtain ⟨rfl, hP, hK, hN⟩ := hv
  have hx := B.exec
  have hb := B.bytes
  have hr := B.returns
  have hts := atoms_spec (ws := uX10_isLuckyAt) B.pre
  have hown : s.vm.findClass RX10 = some m.cls := hown_of B.named rfl
  have hlocks := B.notSynchronized
  have hl := lv_entry ([.ref o0, .int a1, .int a2, .int a3]) (n := 6) (Nat.le_of_ble_eq_true rfl)
  rw [lg_entry_eq]
  generalize (lg_sl ([.ref o0, .int a1, .int a2, .int a3]) ++ List.replicate (6 - (lg_sl ([.ref o0, .int a1, .int a2, .int a3])).length) Slot.unset).toArray = ls at hl ⊢
  have hl : lv_has ls 6 [(0, .ref o0), (1, .int a1), (2, .int a2), (3, .int a3)] := hl
  refine lv_aload_n hx hb dX10_isLuckyAt_0 rfl (lv_at hl 0 rfl) ?_
  refine va_get (D := (dC, dI)) (ci := 8) (v := .ref mnu) (C := RX10) (T := TX10) (N := 33) hx hb hts iX10_isLuckyAt_X10 hown hK hP 0 rfl rfl 31 (by decide) (hts (.fieldLink RX10 71 "LuckyTicketModel" "numbers" "[J") (List.mem_of_getElem? (i := 1) rfl)) (fun _ h9 => h9) rfl dX10_isLuckyAt_1 ?_
  refine lv_bipush (v := 60) hx hb dX10_isLuckyAt_4 (by decide) ?_
  refine lv_iload_n hx hb dX10_isLuckyAt_6 rfl (lv_at hl 1 rfl) ?_
  refine lv_imul hx hb dX10_isLuckyAt_7 ?_
  refine lv_topi (fun z_10 e_z_10 => ?_)
  obtain ⟨q_z_10, b_z_10⟩ := ti_mul (lo := 0) (hi := 180) e_z_10 (by decide : (60 : Int32).toInt = 60) rfl (by decide : (60 : Int) ≤ (60 : Int32).toInt ∧ (60 : Int32).toInt ≤ 60) b_a1 (by decide)
  refine lv_iload_n hx hb dX10_isLuckyAt_8 rfl (lv_at hl 2 rfl) ?_
  refine lv_iadd hx hb dX10_isLuckyAt_9 ?_
  refine lv_topi (fun z_11 e_z_11 => ?_)
  obtain ⟨q_z_11, b_z_11⟩ := ti_add (lo := 0) (hi := 239) e_z_11 rfl rfl b_z_10 b_a2 (by decide)
  refine va_lald hx hb hK hP 3 2 rfl rfl (vp_in_b b_z_11 (by decide) (by decide)) dX10_isLuckyAt_10 ?_
  refine lv_topl (fun z_12 e_z_12 => ?_)
  refine lv_lstore (lv' := [(4, .long z_12), (0, .ref o0), (1, .int a1), (2, .int a2), (3, .int a3)]) hx hb dX10_isLuckyAt_11 hl (by decide) rfl (fun ls hl => ?_)
  refine lv_aload_n hx hb dX10_isLuckyAt_13 rfl (lv_at hl 1 rfl) ?_
  refine lv_lload hx hb dX10_isLuckyAt_14 (lv_at hl 0 rfl) ?_
  refine vp_callSi (W.runV (As := [.long z_12]) (rest := []) ⟨hx, hb, hml, hown, hts⟩ (kX10_isTicket l dC dI o0 x_th mwo mim mhi mlu mtp x_td mfv x_sz x_at x_fr x_to x_va x_fk x_fp mfr mwt x_wt x_op x_jo mfg mpl x_dr mtm mfa mqu mmo mwy mwn mma mwi mnu mmv c_wo w_wo ln bs tk lw li z_12 b_ln b_bs b_tk b_lw (hw0) (hw1) (hw2) (hw3) (hw4) (hwz)) (cwV 1 hts gX10_isLuckyAt__X10_isTicket_V93 rfl rfl rfl hd_yX10_isTicket ⟨lel 2 2 rfl, lel 47 47 rfl⟩) ⟨pw_fb, rcv_X10 hK hP (q0 := 0) rfl, (pw_use hP hK hN [0, 1] rfl [0] rfl)⟩ rfl rfl hl.1 rfl (lv_room (Nat.le_of_ble_eq_true rfl)) dX10_isLuckyAt_16 ⟨lel 0 0 rfl, lel 0 0 rfl⟩) (fun r_13 h_r_13 => ?_)
  obtain ⟨b_r_13, nz_r_13⟩ := h_r_13
  have b_r_13 : (0 : Int) ≤ r_13.toInt ∧ r_13.toInt ≤ 1 := b_r_13
  refine lv_if_eq (tgt := 37) hx hb dX10_isLuckyAt_19 (by decide) (fun c_14 => ?_) (fun c_14 => ?_)
  ·
    have n_c_14 : (r_13.toInt : Int) = 0 := c_eq rfl (by decide) c_14
    have b_r_13 : (0 : Int) ≤ r_13.toInt ∧ r_13.toInt ≤ 0 := r_eq1 b_r_13 (by decide : (0 : Int) ≤ (0 : Int32).toInt ∧ (0 : Int32).toInt ≤ 0) n_c_14 (by decide)
    refine lv_iconst (v := 0) hx hb dX10_isLuckyAt_37 (by decide) ?_
    exact W.zret (v := 0) hx hb hr rfl (fun t ht hW => ⟨0, rfl, (rg_w (by decide : (0 : Int) ≤ (0 : Int32).toInt ∧ (0 : Int32).toInt ≤ 0) (by decide) (by decide)), ht⟩) t_nil dX10_isLuckyAt_38
  ·
    have n_c_14 : (r_13.toInt : Int) ≠ 0 := c_ne rfl (by decide) c_14
    have b_r_13 : (1 : Int) ≤ r_13.toInt ∧ r_13.toInt ≤ 1 := r_ne1 b_r_13 (by decide : (0 : Int) ≤ (0 : Int32).toInt ∧ (0 : Int32).toInt ≤ 0) n_c_14 (by decide)
    obtain ⟨b_z_12, g_15⟩ := nz_r_13 c_14
    refine lv_aload_n hx hb dX10_isLuckyAt_22 rfl (lv_at hl 1 rfl) ?_
    refine lv_iload_n hx hb dX10_isLuckyAt_23 rfl (lv_at hl 4 rfl) ?_
    refine lv_lload hx hb dX10_isLuckyAt_24 (lv_at hl 0 rfl) ?_
    obtain ⟨z_16, e_z_16⟩ : ∃ y : Int32, y = z_12.toInt32 := ⟨_, rfl⟩
    refine lv_l2i (v := z_16) hx hb dX10_isLuckyAt_26 e_z_16.symm ?_
    obtain ⟨q_z_16, b_z_16⟩ := ti_l2i e_z_16 b_z_12 (by decide)
    refine vp_callSi (W.runV (As := [.int a3, .int z_16]) (rest := []) ⟨hx, hb, hml, hown, hts⟩ (kX10_isLucky l dC dI o0 x_th mwo mim mhi mlu mtp x_td mfv x_sz x_at x_fr x_to x_va x_fk x_fp mfr mwt x_wt x_op x_jo mfg mpl x_dr mtm mfa mqu mmo mwy mwn mma mwi mnu mmv c_wo c_lu w_wo w_lu ln bs tk lw li a3 z_16 b_ln b_bs b_tk b_lw b_z_16 (hw0) (hw1) (hw2) (hw3) (hw4) (hwz)) (cwV 2 hts gX10_isLuckyAt__X10_isLucky_V316 rfl rfl rfl hd_yX10_isLucky ⟨lel 1 2 rfl, lel 22 47 rfl⟩) ⟨pw_fb, rcv_X10 hK hP (q0 := 0) rfl, (pw_use hP hK hN [0, 1, 2] rfl [0, 1] rfl)⟩ rfl rfl hl.1 rfl (lv_room (Nat.le_of_ble_eq_true rfl)) dX10_isLuckyAt_27 ⟨lel 0 0 rfl, lel 0 0 rfl⟩) (fun r_17 h_r_17 => ?_)
    have b_r_17 := h_r_17
    have b_r_17 : (0 : Int) ≤ r_17.toInt ∧ r_17.toInt ≤ 1 := b_r_17
    refine lv_if_eq (tgt := 37) hx hb dX10_isLuckyAt_30 (by decide) (fun c_18 => ?_) (fun c_18 => ?_)
    ·
      have n_c_18 : (r_17.toInt : Int) = 0 := c_eq rfl (by decide) c_18
      have b_r_17 : (0 : Int) ≤ r_17.toInt ∧ r_17.toInt ≤ 0 := r_eq1 b_r_17 (by decide : (0 : Int) ≤ (0 : Int32).toInt ∧ (0 : Int32).toInt ≤ 0) n_c_18 (by decide)
      refine lv_iconst (v := 0) hx hb dX10_isLuckyAt_37 (by decide) ?_
      exact W.zret (v := 0) hx hb hr rfl (fun t ht hW => ⟨0, rfl, (rg_w (by decide : (0 : Int) ≤ (0 : Int32).toInt ∧ (0 : Int32).toInt ≤ 0) (by decide) (by decide)), ht⟩) t_nil dX10_isLuckyAt_38
    ·
      have n_c_18 : (r_17.toInt : Int) ≠ 0 := c_ne rfl (by decide) c_18
      have b_r_17 : (1 : Int) ≤ r_17.toInt ∧ r_17.toInt ≤ 1 := r_ne1 b_r_17 (by decide : (0 : Int) ≤ (0 : Int32).toInt ∧ (0 : Int32).toInt ≤ 0) n_c_18 (by decide)
      refine lv_iconst (v := 1) hx hb dX10_isLuckyAt_33 (by decide) ?_
      refine lv_goto (tgt := 38) hx hb dX10_isLuckyAt_34 (by decide) ?_
      exact W.zret (v := 1) hx hb hr rfl (fun t ht hW => ⟨1, rfl, (rg_w (by decide : (1 : Int) ≤ (1 : Int32).toInt ∧ (1 : Int32).toInt ≤ 1) (by decide) (by decide)), ht⟩) t_nil dX10_isLuckyAt_38
theorem dX10_judge_0 : decode cX10_judge 0 = .ok (.aload_n 0, 1) := by decide +kernel
theorem dX10_judge_1 : decode cX10_judge 1 = .ok (.iload_n 1, 1) := by decide +kernel
theorem dX10_judge_2 : decode cX10_judge 2 = .ok (.iload_n 2, 1) := by decide +kernel
theorem dX10_judge_3 : decode cX10_judge 3 = .ok (.invokevirtual 421, 3) := by decide +kernel
theorem dX10_judge_6 : decode cX10_judge 6 = .ok (.istore_n 3, 1) := by decide +kernel
theorem dX10_judge_7 : decode cX10_judge 7 = .ok (.iload_n 3, 1) := by decide +kernel
theorem dX10_judge_8 : decode cX10_judge 8 = .ok (.ifCond .ge 5, 3) := by decide +kernel
theorem dX10_judge_11 : decode cX10_judge 11 = .ok (.iload_n 3, 1) := by decide +kernel
theorem dX10_judge_12 : decode cX10_judge 12 = .ok (.ireturn, 1) := by decide +kernel
theorem dX10_judge_13 : decode cX10_judge 13 = .ok (.iconst 0, 1) := by decide +kernel
theorem dX10_judge_14 : decode cX10_judge 14 = .ok (.istore 4, 2) := by decide +kernel
theorem dX10_judge_16 : decode cX10_judge 16 = .ok (.iload 4, 2) := by decide +kernel
theorem dX10_judge_18 : decode cX10_judge 18 = .ok (.aload_n 0, 1) := by decide +kernel
theorem dX10_judge_19 : decode cX10_judge 19 = .ok (.getfield 65, 3) := by decide +kernel
theorem dX10_judge_22 : decode cX10_judge 22 = .ok (.iload_n 1, 1) := by decide +kernel
theorem dX10_judge_23 : decode cX10_judge 23 = .ok (.iaload, 1) := by decide +kernel
theorem dX10_judge_24 : decode cX10_judge 24 = .ok (.if_icmp .ge 20, 3) := by decide +kernel
theorem dX10_judge_27 : decode cX10_judge 27 = .ok (.aload_n 0, 1) := by decide +kernel
theorem dX10_judge_28 : decode cX10_judge 28 = .ok (.iload_n 1, 1) := by decide +kernel
theorem dX10_judge_29 : decode cX10_judge 29 = .ok (.iload 4, 2) := by decide +kernel
theorem dX10_judge_31 : decode cX10_judge 31 = .ok (.iload_n 2, 1) := by decide +kernel
theorem dX10_judge_32 : decode cX10_judge 32 = .ok (.invokevirtual 424, 3) := by decide +kernel
theorem dX10_judge_35 : decode cX10_judge 35 = .ok (.ifCond .eq 9, 3) := by decide +kernel
theorem dX10_judge_38 : decode cX10_judge 38 = .ok (.iinc 4 1, 3) := by decide +kernel
theorem dX10_judge_41 : decode cX10_judge 41 = .ok (.goto (-25), 3) := by decide +kernel
theorem dX10_judge_44 : decode cX10_judge 44 = .ok (.iload 4, 2) := by decide +kernel
theorem dX10_judge_46 : decode cX10_judge 46 = .ok (.ireturn, 1) := by decide +kernel
theorem hd_yX10_judge : yX10_judge.cls = RX10 ∧ yX10_judge.cls ≠ "java/lang/invoke/MethodHandle" ∧ yX10_judge.cls ≠ "java/lang/invoke/VarHandle" ∧ (parseMethodDescriptor yX10_judge.desc).map (fun d => d.parameters.length) = some 2 := by decide +kernel
def uX10_judge : List Cond := List.cons (.code yX10_judge cX10_judge 5 (some .int)) (HAppend.hAppend ([.methodLink RX10 421 yX10_asksRow, .instanceMethod yX10_asksRow, .selects RX10 yX10_asksRow yX10_asksRow, .initialized RX10, .fieldLink RX10 65 "LuckyTicketModel" "many" "[I", .methodLink RX10 424 yX10_isLuckyAt, .instanceMethod yX10_isLuckyAt, .selects RX10 yX10_isLuckyAt yX10_isLuckyAt] : List Cond) (HAppend.hAppend uX10_asksRow (HAppend.hAppend uX10_isLuckyAt wsX100)))
theorem iX10_judge_X10 : ∀ w ∈ wsX100, w ∈ uX10_judge := fun _ h => (List.mem_cons_of_mem _ (List.mem_append_right _ (List.mem_append_right _ (List.mem_append_right _ h))))
theorem guX10_judge : GU uX10_judge := gu_cons (gu_app (by decide +kernel) (gu_ap guX10_asksRow (gu_ap guX10_isLuckyAt gws_X10)))
theorem gX10_judge__X10_asksRow_V421 : GoodIn uX10_judge (wsV RX10 421 RX10 yX10_asksRow uX10_asksRow) := gin_V (List.mem_of_getElem? (i := 1) rfl) (List.mem_of_getElem? (i := 2) rfl) (List.mem_of_getElem? (i := 3) rfl) (List.mem_of_getElem? (i := 4) rfl) (fun _ h => (List.mem_cons_of_mem _ (List.mem_append_right _ (List.mem_append_left _ h)))) guX10_asksRow
theorem gX10_judge__X10_isLuckyAt_V424 : GoodIn uX10_judge (wsV RX10 424 RX10 yX10_isLuckyAt uX10_isLuckyAt) := gin_V (List.mem_of_getElem? (i := 6) rfl) (List.mem_of_getElem? (i := 7) rfl) (List.mem_of_getElem? (i := 8) rfl) (List.mem_of_getElem? (i := 4) rfl) (fun _ h => (List.mem_cons_of_mem _ (List.mem_append_right _ (List.mem_append_right _ (List.mem_append_left _ h))))) guX10_isLuckyAt
set_option maxHeartbeats 4000000 in
set_option maxRecDepth 100000 in
theorem kX10_judge (l : Launch) (dC : Nat → ClassId) (dI : Nat → Nat → Nat) (o0 : Nat) (x_th : Int32) (mwo : Nat) (mim : Nat) (mhi : Nat) (mlu : Nat) (mtp : Nat) (x_td : Int32) (mfv : Nat) (x_sz : Int32) (x_at : Int32) (x_fr : Int32) (x_to : Int32) (x_va : Int32) (x_fk : Int32) (x_fp : Int32) (mfr : Nat) (mwt : Nat) (x_wt : Int32) (x_op : Int32) (x_jo : Int32) (mfg : Nat) (mpl : Nat) (x_dr : Int64) (mtm : Nat) (mfa : Nat) (mqu : Nat) (mmo : Nat) (mwy : Nat) (mwn : Nat) (mma : Nat) (mwi : Nat) (mnu : Nat) (mmv : Nat) (c_wo : ClassId) (c_lu : ClassId) (c_nu : ClassId) (c_ma : ClassId) (w_wo : Nat → Int32) (w_lu : Nat → Int32) (w_nu : Nat → Int64) (w_ma : Nat → Int32) (ln : Int32) (bs : Int32) (tk : Int32) (lw : Int32) (li : Int32) (a1 : Int32) (a2 : Int32) (b_ln : (0 : Int) ≤ ln.toInt ∧ ln.toInt ≤ 12) (b_bs : (0 : Int) ≤ bs.toInt ∧ bs.toInt ≤ 16) (b_tk : (0 : Int) ≤ tk.toInt ∧ tk.toInt ≤ 20000) (b_lw : (0 : Int) ≤ lw.toInt ∧ lw.toInt ≤ 9) (ha_mma : rg w_ma 4 (-1) 60) (hw0 : w_wo 0 = ln) (hw1 : w_wo 1 = bs) (hw2 : w_wo 2 = tk) (hw3 : w_wo 3 = lw) (hw4 : w_wo 4 = li) (hwz : (ln.toInt = 0 ∧ bs.toInt = 0 ∧ tk.toInt = 0 ∧ lw.toInt = 0) ∨ (1 ≤ ln.toInt ∧ 2 ≤ bs.toInt ∧ 1 ≤ tk.toInt)) : Met l yX10_judge uX10_judge ({ frames := 3, cells := 0, slots := 0, locals := 72 }) (va_Pc [.ref o0, .int a1, .int a2] (pw (dC, dI) vwCl [(o0, .inr (8, [.int x_th, .ref mwo, .ref mim, .ref mhi, .ref mlu, .ref mtp, .int x_td, .ref mfv, .int x_sz, .int x_at, .int x_fr, .int x_to, .int x_va, .int x_fk, .int x_fp, .ref mfr, .ref mwt, .int x_wt, .int x_op, .int x_jo, .ref mfg, .ref mpl, .long x_dr, .ref mtm, .ref mfa, .ref mqu, .ref mmo, .ref mwy, .ref mwn, .ref mma, .ref mwi, .ref mnu, .ref mmv])), (mwo, .inl (c_wo, 1875, .inl w_wo)), (mlu, .inl (c_lu, 20000, .inl w_lu)), (mnu, .inl (c_nu, 240, .inr (.inl w_nu))), (mma, .inl (c_ma, 4, .inl w_ma))] [(c_wo, .int), (c_lu, .int), (c_nu, .long), (c_ma, .int)])) (vp_Si (fun r => ((-6 : Int) ≤ r.toInt ∧ r.toInt ≤ 60))) 0 0 (fun _ => False) := by
  refine Met.ofW (cc := cX10_judge) (maxL := 5) (ret := (some .int)) pn_X10 rfl ?_
  intro p e s m args below meth c s₁ B hml hv
  obtain ⟨rfl, hP, hK, hN⟩ := hv
  have hx := B.exec
  have hb := B.bytes
  have hr := B.returns
  have hts := atoms_spec (ws := uX10_judge) B.pre
  have hown : s.vm.findClass RX10 = some m.cls := hown_of B.named rfl
  have hlocks := B.notSynchronized
  have hl := lv_entry ([.ref o0, .int a1, .int a2]) (n := 5) (Nat.le_of_ble_eq_true rfl)
  rw [lg_entry_eq]
  generalize (lg_sl ([.ref o0, .int a1, .int a2]) ++ List.replicate (5 - (lg_sl ([.ref o0, .int a1, .int a2])).length) Slot.unset).toArray = ls at hl ⊢
  have hl : lv_has ls 5 [(0, .ref o0), (1, .int a1), (2, .int a2)] := hl
  refine lv_aload_n hx hb dX10_judge_0 rfl (lv_at hl 0 rfl) ?_
  refine lv_iload_n hx hb dX10_judge_1 rfl (lv_at hl 1 rfl) ?_
  refine lv_iload_n hx hb dX10_judge_2 rfl (lv_at hl 2 rfl) ?_
  refine vp_callSi (W.runV (As := [.int a1, .int a2]) (rest := []) ⟨hx, hb, hml, hown, hts⟩ (kX10_asksRow l dC dI o0 x_th mwo mim mhi mlu mtp x_td mfv x_sz x_at x_fr x_to x_va x_fk x_fp mfr mwt x_wt x_op x_jo mfg mpl x_dr mtm mfa mqu mmo mwy mwn mma mwi mnu mmv c_wo c_ma w_wo w_ma ln bs tk lw li a1 a2 b_ln b_bs b_tk b_lw ha_mma (hw0) (hw1) (hw2) (hw3) (hw4) (hwz)) (cwV 2 hts gX10_judge__X10_asksRow_V421 rfl rfl rfl hd_yX10_asksRow ⟨lel 3 3 rfl, lel 68 72 rfl⟩) ⟨pw_fb, rcv_X10 hK hP (q0 := 0) rfl, (pw_use hP hK hN [0, 1, 4] rfl [0, 3] rfl)⟩ rfl rfl hl.1 rfl (lv_room (Nat.le_of_ble_eq_true rfl)) dX10_judge_3 ⟨lel 0 0 rfl, lel 0 0 rfl⟩) (fun r_40 h_r_40 => ?_)
  obtain ⟨b_r_40, zz_r_40⟩ := h_r_40
  have b_r_40 : (-6 : Int) ≤ r_40.toInt ∧ r_40.toInt ≤ 0 := b_r_40
  refine lv_istore_n (lv' := [(3, .int r_40), (0, .ref o0), (1, .int a1), (2, .int a2)]) hx hb dX10_judge_6 rfl hl (by decide) rfl (fun ls hl => ?_)
  refine lv_iload_n hx hb dX10_judge_7 rfl (lv_at hl 0 rfl) ?_
  refine lv_if_ge (tgt := 13) hx hb dX10_judge_8 (by decide) (fun c_41 => ?_) (fun c_41 => ?_)
  ·
    have n_c_41 : (0 : Int) ≤ r_40.toInt := c_ge rfl (by decide) c_41
    have b_r_40 : (0 : Int) ≤ r_40.toInt ∧ r_40.toInt ≤ 0 := r_le2 (by decide : (0 : Int) ≤ (0 : Int32).toInt ∧ (0 : Int32).toInt ≤ 0) b_r_40 n_c_41 (by decide)
    obtain ⟨b_a1, b_a2, g_42⟩ := zz_r_40 (ti_z b_r_40)
    refine lv_iconst (v := 0) hx hb dX10_judge_13 (by decide) ?_
    refine lv_istore (lv' := [(4, .int 0), (3, .int r_40), (0, .ref o0), (1, .int a1), (2, .int a2)]) hx hb dX10_judge_14 hl (by decide) rfl (fun ls hl => ?_)
    refine loopP (σ := Int32) (fun v => (60 - v.toInt).toNat) (fun v ls => ((0 : Int) ≤ v.toInt ∧ v.toInt ≤ 60) ∧ lv_has ls 5 [(4, .int v), (3, .int r_40), (0, .ref o0), (1, .int a1), (2, .int a2)]) (fun v ls hI ih_16_73 => ?_) (0 : Int32) ⟨(show (0 : Int) ≤ (0 : Int32).toInt ∧ (0 : Int32).toInt ≤ 60 from (rg_w (by decide : (0 : Int) ≤ (0 : Int32).toInt ∧ (0 : Int32).toInt ≤ 0) (by decide) (by decide))), lv_sub hl [0, 1, 2, 3, 4] rfl⟩
    obtain ⟨y_48, rfl⟩ : ∃ z, z = v := ⟨_, rfl⟩
    obtain ⟨b_y_48, hl⟩ := hI
    have b_y_48 : (0 : Int) ≤ y_48.toInt ∧ y_48.toInt ≤ 60 := b_y_48
    have hl : lv_has ls 5 [(4, .int y_48), (3, .int r_40), (0, .ref o0), (1, .int a1), (2, .int a2)] := hl
    refine lv_iload hx hb dX10_judge_16 (lv_at hl 0 rfl) ?_
    refine lv_aload_n hx hb dX10_judge_18 rfl (lv_at hl 2 rfl) ?_
    refine va_get (D := (dC, dI)) (ci := 8) (v := .ref mma) (C := RX10) (T := TX10) (N := 33) hx hb hts iX10_judge_X10 hown hK hP 0 rfl rfl 29 (by decide) (hts (.fieldLink RX10 65 "LuckyTicketModel" "many" "[I") (List.mem_of_getElem? (i := 5) rfl)) (fun _ h9 => h9) rfl dX10_judge_19 ?_
    refine lv_iload_n hx hb dX10_judge_22 rfl (lv_at hl 3 rfl) ?_
    refine va_iald hx hb hK hP 4 3 rfl rfl (vp_in_b b_a1 (by decide) (by decide)) dX10_judge_23 ?_
    refine lv_topi (fun z_74 e_z_74 => ?_)
    have b_z_74 : (-1 : Int) ≤ z_74.toInt ∧ z_74.toInt ≤ 60 := rg_at ha_mma (vp_in_b b_a1 (by decide) (by decide)) e_z_74
    refine lv_icmp_ge (tgt := 44) hx hb dX10_judge_24 (by decide) (fun c_75 => ?_) (fun c_75 => ?_)
    ·
      have n_c_75 : (z_74.toInt : Int) ≤ y_48.toInt := c_ge rfl rfl c_75
      refine lv_iload hx hb dX10_judge_44 (lv_at hl 0 rfl) ?_
      exact W.iret (v := y_48) hx hb hr (fun t ht hW => ⟨y_48, rfl, (rg_w b_y_48 (by decide) (by decide)), ht⟩) t_nil dX10_judge_46
    ·
      have n_c_75 : (y_48.toInt : Int) < z_74.toInt := c_nge rfl rfl c_75
      have b_y_48 : (0 : Int) ≤ y_48.toInt ∧ y_48.toInt ≤ 59 := r_lt1 b_y_48 b_z_74 n_c_75 (by decide)
      have b_z_74 : (1 : Int) ≤ z_74.toInt ∧ z_74.toInt ≤ 60 := r_lt2 b_y_48 b_z_74 n_c_75 (by decide)
      refine lv_aload_n hx hb dX10_judge_27 rfl (lv_at hl 2 rfl) ?_
      refine lv_iload_n hx hb dX10_judge_28 rfl (lv_at hl 3 rfl) ?_
      refine lv_iload hx hb dX10_judge_29 (lv_at hl 0 rfl) ?_
      refine lv_iload_n hx hb dX10_judge_31 rfl (lv_at hl 4 rfl) ?_
      refine vp_callSi (W.runV (As := [.int a1, .int y_48, .int a2]) (rest := []) ⟨hx, hb, hml, hown, hts⟩ (kX10_isLuckyAt l dC dI o0 x_th mwo mim mhi mlu mtp x_td mfv x_sz x_at x_fr x_to x_va x_fk x_fp mfr mwt x_wt x_op x_jo mfg mpl x_dr mtm mfa mqu mmo mwy mwn mma mwi mnu mmv c_wo c_lu c_nu w_wo w_lu w_nu ln bs tk lw li a1 y_48 a2 b_ln b_bs b_tk b_lw b_a1 b_y_48 (hw0) (hw1) (hw2) (hw3) (hw4) (hwz)) (cwV 3 hts gX10_judge__X10_isLuckyAt_V424 rfl rfl rfl hd_yX10_isLuckyAt ⟨lel 3 3 rfl, lel 72 72 rfl⟩) ⟨pw_fb, rcv_X10 hK hP (q0 := 0) rfl, (pw_use hP hK hN [0, 1, 2, 3] rfl [0, 1, 2] rfl)⟩ rfl rfl hl.1 rfl (lv_room (Nat.le_of_ble_eq_true rfl)) dX10_judge_32 ⟨lel 0 0 rfl, lel 0 0 rfl⟩) (fun r_76 h_r_76 => ?_)
      have b_r_76 := h_r_76
      have b_r_76 : (0 : Int) ≤ r_76.toInt ∧ r_76.toInt ≤ 1 := b_r_76
      refine lv_if_eq (tgt := 44) hx hb dX10_judge_35 (by decide) (fun c_77 => ?_) (fun c_77 => ?_)
      ·
        have n_c_77 : (r_76.toInt : Int) = 0 := c_eq rfl (by decide) c_77
        have b_r_76 : (0 : Int) ≤ r_76.toInt ∧ r_76.toInt ≤ 0 := r_eq1 b_r_76 (by decide : (0 : Int) ≤ (0 : Int32).toInt ∧ (0 : Int32).toInt ≤ 0) n_c_77 (by decide)
        refine lv_iload hx hb dX10_judge_44 (lv_at hl 0 rfl) ?_
        exact W.iret (v := y_48) hx hb hr (fun t ht hW => ⟨y_48, rfl, (rg_w b_y_48 (by decide) (by decide)), ht⟩) t_nil dX10_judge_46
      ·
        have n_c_77 : (r_76.toInt : Int) ≠ 0 := c_ne rfl (by decide) c_77
        have b_r_76 : (1 : Int) ≤ r_76.toInt ∧ r_76.toInt ≤ 1 := r_ne1 b_r_76 (by decide : (0 : Int) ≤ (0 : Int32).toInt ∧ (0 : Int32).toInt ≤ 0) n_c_77 (by decide)
        obtain ⟨z_78, e_z_78⟩ : ∃ y : Int32, y = y_48 + 1 := ⟨_, rfl⟩
        refine lv_iinc (v := z_78) (lv' := [(4, .int z_78), (3, .int r_40), (0, .ref o0), (1, .int a1), (2, .int a2)]) hx hb dX10_judge_38 hl (k := 0) rfl (by rw [e_z_78]; rfl) (by decide) rfl (fun ls hl => ?_)
        obtain ⟨q_z_78, b_z_78⟩ := ti_add (lo := 1) (hi := 60) e_z_78 rfl (by decide : (1 : Int32).toInt = 1) b_y_48 (by decide : (1 : Int) ≤ (1 : Int32).toInt ∧ (1 : Int32).toInt ≤ 1) (by decide)
        refine lv_goto (tgt := 16) hx hb dX10_judge_41 (by decide) ?_
        exact ih_16_73 z_78 _ ⟨(show (0 : Int) ≤ z_78.toInt ∧ z_78.toInt ≤ 60 from (rg_w b_z_78 (by decide) (by decide))), lv_sub hl [0, 1, 2, 3, 4] rfl⟩ (show (60 - z_78.toInt).toNat < (60 - y_48.toInt).toNat by omega)
  ·
    have n_c_41 : (r_40.toInt : Int) < 0 := c_nge rfl (by decide) c_41
    have b_r_40 : (-6 : Int) ≤ r_40.toInt ∧ r_40.toInt ≤ -1 := r_lt1 b_r_40 (by decide : (0 : Int) ≤ (0 : Int32).toInt ∧ (0 : Int32).toInt ≤ 0) n_c_41 (by decide)
    refine lv_iload_n hx hb dX10_judge_11 rfl (lv_at hl 0 rfl) ?_
    exact W.iret (v := r_40) hx hb hr (fun t ht hW => ⟨r_40, rfl, (rg_w b_r_40 (by decide) (by decide)), ht⟩) t_nil dX10_judge_12
theorem dX10_kept_0 : decode cX10_kept 0 = .ok (.aload_n 0, 1) := by decide +kernel
theorem dX10_kept_1 : decode cX10_kept 1 = .ok (.iload_n 1, 1) := by decide +kernel
theorem dX10_kept_2 : decode cX10_kept 2 = .ok (.iload_n 2, 1) := by decide +kernel
theorem dX10_kept_3 : decode cX10_kept 3 = .ok (.invokevirtual 421, 3) := by decide +kernel
theorem dX10_kept_6 : decode cX10_kept 6 = .ok (.istore_n 3, 1) := by decide +kernel
theorem dX10_kept_7 : decode cX10_kept 7 = .ok (.iload_n 3, 1) := by decide +kernel
theorem dX10_kept_8 : decode cX10_kept 8 = .ok (.ifCond .ge 5, 3) := by decide +kernel
theorem dX10_kept_11 : decode cX10_kept 11 = .ok (.iload_n 3, 1) := by decide +kernel
theorem dX10_kept_12 : decode cX10_kept 12 = .ok (.ireturn, 1) := by decide +kernel
theorem dX10_kept_13 : decode cX10_kept 13 = .ok (.iconst 0, 1) := by decide +kernel
theorem dX10_kept_14 : decode cX10_kept 14 = .ok (.istore 4, 2) := by decide +kernel
theorem dX10_kept_16 : decode cX10_kept 16 = .ok (.iconst 0, 1) := by decide +kernel
theorem dX10_kept_17 : decode cX10_kept 17 = .ok (.istore 5, 2) := by decide +kernel
theorem dX10_kept_19 : decode cX10_kept 19 = .ok (.iload 5, 2) := by decide +kernel
theorem dX10_kept_21 : decode cX10_kept 21 = .ok (.aload_n 0, 1) := by decide +kernel
theorem dX10_kept_22 : decode cX10_kept 22 = .ok (.getfield 65, 3) := by decide +kernel
theorem dX10_kept_25 : decode cX10_kept 25 = .ok (.iload_n 1, 1) := by decide +kernel
theorem dX10_kept_26 : decode cX10_kept 26 = .ok (.iaload, 1) := by decide +kernel
theorem dX10_kept_27 : decode cX10_kept 27 = .ok (.if_icmp .ge 90, 3) := by decide +kernel
theorem dX10_kept_30 : decode cX10_kept 30 = .ok (.aload_n 0, 1) := by decide +kernel
theorem dX10_kept_31 : decode cX10_kept 31 = .ok (.iload_n 1, 1) := by decide +kernel
theorem dX10_kept_32 : decode cX10_kept 32 = .ok (.iload 5, 2) := by decide +kernel
theorem dX10_kept_34 : decode cX10_kept 34 = .ok (.iload_n 2, 1) := by decide +kernel
theorem dX10_kept_35 : decode cX10_kept 35 = .ok (.invokevirtual 424, 3) := by decide +kernel
theorem dX10_kept_38 : decode cX10_kept 38 = .ok (.istore 6, 2) := by decide +kernel
theorem dX10_kept_40 : decode cX10_kept 40 = .ok (.iconst 0, 1) := by decide +kernel
theorem dX10_kept_41 : decode cX10_kept 41 = .ok (.istore 7, 2) := by decide +kernel
theorem dX10_kept_43 : decode cX10_kept 43 = .ok (.iload 7, 2) := by decide +kernel
theorem dX10_kept_45 : decode cX10_kept 45 = .ok (.iload 5, 2) := by decide +kernel
theorem dX10_kept_47 : decode cX10_kept 47 = .ok (.if_icmp .ge 49, 3) := by decide +kernel
theorem dX10_kept_50 : decode cX10_kept 50 = .ok (.iload 6, 2) := by decide +kernel
theorem dX10_kept_52 : decode cX10_kept 52 = .ok (.ifCond .eq 44, 3) := by decide +kernel
theorem dX10_kept_55 : decode cX10_kept 55 = .ok (.aload_n 0, 1) := by decide +kernel
theorem dX10_kept_56 : decode cX10_kept 56 = .ok (.getfield 71, 3) := by decide +kernel
theorem dX10_kept_59 : decode cX10_kept 59 = .ok (.bipush 60, 2) := by decide +kernel
theorem dX10_kept_61 : decode cX10_kept 61 = .ok (.iload_n 1, 1) := by decide +kernel
theorem dX10_kept_62 : decode cX10_kept 62 = .ok (.imul, 1) := by decide +kernel
theorem dX10_kept_63 : decode cX10_kept 63 = .ok (.iload 7, 2) := by decide +kernel
theorem dX10_kept_65 : decode cX10_kept 65 = .ok (.iadd, 1) := by decide +kernel
theorem dX10_kept_66 : decode cX10_kept 66 = .ok (.laload, 1) := by decide +kernel
theorem dX10_kept_67 : decode cX10_kept 67 = .ok (.aload_n 0, 1) := by decide +kernel
theorem dX10_kept_68 : decode cX10_kept 68 = .ok (.getfield 71, 3) := by decide +kernel
theorem dX10_kept_71 : decode cX10_kept 71 = .ok (.bipush 60, 2) := by decide +kernel
theorem dX10_kept_73 : decode cX10_kept 73 = .ok (.iload_n 1, 1) := by decide +kernel
theorem dX10_kept_74 : decode cX10_kept 74 = .ok (.imul, 1) := by decide +kernel
theorem dX10_kept_75 : decode cX10_kept 75 = .ok (.iload 5, 2) := by decide +kernel
theorem dX10_kept_77 : decode cX10_kept 77 = .ok (.iadd, 1) := by decide +kernel
theorem dX10_kept_78 : decode cX10_kept 78 = .ok (.laload, 1) := by decide +kernel
theorem dX10_kept_79 : decode cX10_kept 79 = .ok (.lcmp, 1) := by decide +kernel
theorem dX10_kept_80 : decode cX10_kept 80 = .ok (.ifCond .eq 7, 3) := by decide +kernel
theorem dX10_kept_83 : decode cX10_kept 83 = .ok (.iconst 1, 1) := by decide +kernel
theorem dX10_kept_84 : decode cX10_kept 84 = .ok (.goto 4, 3) := by decide +kernel
theorem dX10_kept_87 : decode cX10_kept 87 = .ok (.iconst 0, 1) := by decide +kernel
theorem dX10_kept_88 : decode cX10_kept 88 = .ok (.istore 6, 2) := by decide +kernel
theorem dX10_kept_90 : decode cX10_kept 90 = .ok (.iinc 7 1, 3) := by decide +kernel
theorem dX10_kept_93 : decode cX10_kept 93 = .ok (.goto (-50), 3) := by decide +kernel
theorem dX10_kept_96 : decode cX10_kept 96 = .ok (.iload 4, 2) := by decide +kernel
theorem dX10_kept_98 : decode cX10_kept 98 = .ok (.iload 6, 2) := by decide +kernel
theorem dX10_kept_100 : decode cX10_kept 100 = .ok (.ifCond .eq 7, 3) := by decide +kernel
theorem dX10_kept_103 : decode cX10_kept 103 = .ok (.iconst 1, 1) := by decide +kernel
theorem dX10_kept_104 : decode cX10_kept 104 = .ok (.goto 4, 3) := by decide +kernel
theorem dX10_kept_107 : decode cX10_kept 107 = .ok (.iconst 0, 1) := by decide +kernel
theorem dX10_kept_108 : decode cX10_kept 108 = .ok (.iadd, 1) := by decide +kernel
theorem dX10_kept_109 : decode cX10_kept 109 = .ok (.istore 4, 2) := by decide +kernel
theorem dX10_kept_111 : decode cX10_kept 111 = .ok (.iinc 5 1, 3) := by decide +kernel
theorem dX10_kept_114 : decode cX10_kept 114 = .ok (.goto (-95), 3) := by decide +kernel
theorem dX10_kept_117 : decode cX10_kept 117 = .ok (.iload 4, 2) := by decide +kernel
theorem dX10_kept_119 : decode cX10_kept 119 = .ok (.ireturn, 1) := by decide +kernel
theorem hd_yX10_kept : yX10_kept.cls = RX10 ∧ yX10_kept.cls ≠ "java/lang/invoke/MethodHandle" ∧ yX10_kept.cls ≠ "java/lang/invoke/VarHandle" ∧ (parseMethodDescriptor yX10_kept.desc).map (fun d => d.parameters.length) = some 2 := by decide +kernel
def uX10_kept : List Cond := List.cons (.code yX10_kept cX10_kept 8 (some .int)) (HAppend.hAppend ([.methodLink RX10 421 yX10_asksRow, .instanceMethod yX10_asksRow, .selects RX10 yX10_asksRow yX10_asksRow, .initialized RX10, .fieldLink RX10 65 "LuckyTicketModel" "many" "[I", .methodLink RX10 424 yX10_isLuckyAt, .instanceMethod yX10_isLuckyAt, .selects RX10 yX10_isLuckyAt yX10_isLuckyAt, .fieldLink RX10 71 "LuckyTicketModel" "numbers" "[J"] : List Cond) (HAppend.hAppend uX10_asksRow (HAppend.hAppend uX10_isLuckyAt wsX100)))
theorem iX10_kept_X10 : ∀ w ∈ wsX100, w ∈ uX10_kept := fun _ h => (List.mem_cons_of_mem _ (List.mem_append_right _ (List.mem_append_right _ (List.mem_append_right _ h))))
theorem guX10_kept : GU uX10_kept := gu_cons (gu_app (by decide +kernel) (gu_ap guX10_asksRow (gu_ap guX10_isLuckyAt gws_X10)))
theorem gX10_kept__X10_asksRow_V421 : GoodIn uX10_kept (wsV RX10 421 RX10 yX10_asksRow uX10_asksRow) := gin_V (List.mem_of_getElem? (i := 1) rfl) (List.mem_of_getElem? (i := 2) rfl) (List.mem_of_getElem? (i := 3) rfl) (List.mem_of_getElem? (i := 4) rfl) (fun _ h => (List.mem_cons_of_mem _ (List.mem_append_right _ (List.mem_append_left _ h)))) guX10_asksRow
theorem gX10_kept__X10_isLuckyAt_V424 : GoodIn uX10_kept (wsV RX10 424 RX10 yX10_isLuckyAt uX10_isLuckyAt) := gin_V (List.mem_of_getElem? (i := 6) rfl) (List.mem_of_getElem? (i := 7) rfl) (List.mem_of_getElem? (i := 8) rfl) (List.mem_of_getElem? (i := 4) rfl) (fun _ h => (List.mem_cons_of_mem _ (List.mem_append_right _ (List.mem_append_right _ (List.mem_append_left _ h))))) guX10_isLuckyAt
set_option maxHeartbeats 4000000 in
set_option maxRecDepth 100000 in
theorem kX10_kept (l : Launch) (dC : Nat → ClassId) (dI : Nat → Nat → Nat) (o0 : Nat) (x_th : Int32) (mwo : Nat) (mim : Nat) (mhi : Nat) (mlu : Nat) (mtp : Nat) (x_td : Int32) (mfv : Nat) (x_sz : Int32) (x_at : Int32) (x_fr : Int32) (x_to : Int32) (x_va : Int32) (x_fk : Int32) (x_fp : Int32) (mfr : Nat) (mwt : Nat) (x_wt : Int32) (x_op : Int32) (x_jo : Int32) (mfg : Nat) (mpl : Nat) (x_dr : Int64) (mtm : Nat) (mfa : Nat) (mqu : Nat) (mmo : Nat) (mwy : Nat) (mwn : Nat) (mma : Nat) (mwi : Nat) (mnu : Nat) (mmv : Nat) (c_wo : ClassId) (c_lu : ClassId) (c_nu : ClassId) (c_ma : ClassId) (w_wo : Nat → Int32) (w_lu : Nat → Int32) (w_nu : Nat → Int64) (w_ma : Nat → Int32) (ln : Int32) (bs : Int32) (tk : Int32) (lw : Int32) (li : Int32) (a1 : Int32) (a2 : Int32) (b_ln : (0 : Int) ≤ ln.toInt ∧ ln.toInt ≤ 12) (b_bs : (0 : Int) ≤ bs.toInt ∧ bs.toInt ≤ 16) (b_tk : (0 : Int) ≤ tk.toInt ∧ tk.toInt ≤ 20000) (b_lw : (0 : Int) ≤ lw.toInt ∧ lw.toInt ≤ 9) (ha_mma : rg w_ma 4 (-1) 60) (hw0 : w_wo 0 = ln) (hw1 : w_wo 1 = bs) (hw2 : w_wo 2 = tk) (hw3 : w_wo 3 = lw) (hw4 : w_wo 4 = li) (hwz : (ln.toInt = 0 ∧ bs.toInt = 0 ∧ tk.toInt = 0 ∧ lw.toInt = 0) ∨ (1 ≤ ln.toInt ∧ 2 ≤ bs.toInt ∧ 1 ≤ tk.toInt)) : Met l yX10_kept uX10_kept ({ frames := 3, cells := 0, slots := 0, locals := 72 }) (va_Pc [.ref o0, .int a1, .int a2] (pw (dC, dI) vwCl [(o0, .inr (8, [.int x_th, .ref mwo, .ref mim, .ref mhi, .ref mlu, .ref mtp, .int x_td, .ref mfv, .int x_sz, .int x_at, .int x_fr, .int x_to, .int x_va, .int x_fk, .int x_fp, .ref mfr, .ref mwt, .int x_wt, .int x_op, .int x_jo, .ref mfg, .ref mpl, .long x_dr, .ref mtm, .ref mfa, .ref mqu, .ref mmo, .ref mwy, .ref mwn, .ref mma, .ref mwi, .ref mnu, .ref mmv])), (mwo, .inl (c_wo, 1875, .inl w_wo)), (mlu, .inl (c_lu, 20000, .inl w_lu)), (mnu, .inl (c_nu, 240, .inr (.inl w_nu))), (mma, .inl (c_ma, 4, .inl w_ma))] [(c_wo, .int), (c_lu, .int), (c_nu, .long), (c_ma, .int)])) (vp_Si (fun r => True)) 0 0 (fun _ => False) := by
  refine Met.ofW (cc := cX10_kept) (maxL := 8) (ret := (some .int)) pn_X10 rfl ?_
  intro p e s m args below meth c s₁ B hml hv
  obtain ⟨rfl, hP, hK, hN⟩ := hv
  have hx := B.exec
  have hb := B.bytes
  have hr := B.returns
  have hts := atoms_spec (ws := uX10_kept) B.pre
  have hown : s.vm.findClass RX10 = some m.cls := hown_of B.named rfl
  have hlocks := B.notSynchronized
  have hl := lv_entry ([.ref o0, .int a1, .int a2]) (n := 8) (Nat.le_of_ble_eq_true rfl)
  rw [lg_entry_eq]
  generalize (lg_sl ([.ref o0, .int a1, .int a2]) ++ List.replicate (8 - (lg_sl ([.ref o0, .int a1, .int a2])).length) Slot.unset).toArray = ls at hl ⊢
  have hl : lv_has ls 8 [(0, .ref o0), (1, .int a1), (2, .int a2)] := hl
  refine lv_aload_n hx hb dX10_kept_0 rfl (lv_at hl 0 rfl) ?_
  refine lv_iload_n hx hb dX10_kept_1 rfl (lv_at hl 1 rfl) ?_
  refine lv_iload_n hx hb dX10_kept_2 rfl (lv_at hl 2 rfl) ?_
  refine vp_callSi (W.runV (As := [.int a1, .int a2]) (rest := []) ⟨hx, hb, hml, hown, hts⟩ (kX10_asksRow l dC dI o0 x_th mwo mim mhi mlu mtp x_td mfv x_sz x_at x_fr x_to x_va x_fk x_fp mfr mwt x_wt x_op x_jo mfg mpl x_dr mtm mfa mqu mmo mwy mwn mma mwi mnu mmv c_wo c_ma w_wo w_ma ln bs tk lw li a1 a2 b_ln b_bs b_tk b_lw ha_mma (hw0) (hw1) (hw2) (hw3) (hw4) (hwz)) (cwV 2 hts gX10_kept__X10_asksRow_V421 rfl rfl rfl hd_yX10_asksRow ⟨lel 3 3 rfl, lel 68 72 rfl⟩) ⟨pw_fb, rcv_X10 hK hP (q0 := 0) rfl, (pw_use hP hK hN [0, 1, 4] rfl [0, 3] rfl)⟩ rfl rfl hl.1 rfl (lv_room (Nat.le_of_ble_eq_true rfl)) dX10_kept_3 ⟨lel 0 0 rfl, lel 0 0 rfl⟩) (fun r_2949 h_r_2949 => ?_)
  obtain ⟨b_r_2949, zz_r_2949⟩ := h_r_2949
  have b_r_2949 : (-6 : Int) ≤ r_2949.toInt ∧ r_2949.toInt ≤ 0 := b_r_2949
  refine lv_istore_n (lv' := [(3, .int r_2949), (0, .ref o0), (1, .int a1), (2, .int a2)]) hx hb dX10_kept_6 rfl hl (by decide) rfl (fun ls hl => ?_)
  refine lv_iload_n hx hb dX10_kept_7 rfl (lv_at hl 0 rfl) ?_
  refine lv_if_ge (tgt := 13) hx hb dX10_kept_8 (by decide) (fun c_2950 => ?_) (fun c_2950 => ?_)
  ·
    have n_c_2950 : (0 : Int) ≤ r_2949.toInt := c_ge rfl (by decide) c_2950
    have b_r_2949 : (0 : Int) ≤ r_2949.toInt ∧ r_2949.toInt ≤ 0 := r_le2 (by decide : (0 : Int) ≤ (0 : Int32).toInt ∧ (0 : Int32).toInt ≤ 0) b_r_2949 n_c_2950 (by decide)
    obtain ⟨b_a1, b_a2, g_2951⟩ := zz_r_2949 (ti_z b_r_2949)
    refine lv_iconst (v := 0) hx hb dX10_kept_13 (by decide) ?_
    refine lv_istore (lv' := [(4, .int 0), (3, .int r_2949), (0, .ref o0), (1, .int a1), (2, .int a2)]) hx hb dX10_kept_14 hl (by decide) rfl (fun ls hl => ?_)
    refine lv_iconst (v := 0) hx hb dX10_kept_16 (by decide) ?_
    refine lv_istore (lv' := [(5, .int 0), (4, .int 0), (3, .int r_2949), (0, .ref o0), (1, .int a1), (2, .int a2)]) hx hb dX10_kept_17 hl (by decide) rfl (fun ls hl => ?_)
    refine loopP (σ := Int32 × Int32) (fun v => (60 - v.1.toInt).toNat) (fun v ls => ((0 : Int) ≤ v.1.toInt ∧ v.1.toInt ≤ 60) ∧ lv_has ls 8 [(5, .int v.1), (4, .int v.2), (3, .int r_2949), (0, .ref o0), (1, .int a1), (2, .int a2)]) (fun v ls hI ih_19_5691 => ?_) ((0 : Int32), (0 : Int32)) ⟨(show (0 : Int) ≤ (0 : Int32).toInt ∧ (0 : Int32).toInt ≤ 60 from (rg_w (by decide : (0 : Int) ≤ (0 : Int32).toInt ∧ (0 : Int32).toInt ≤ 0) (by decide) (by decide))), lv_sub hl [0, 1, 2, 3, 4, 5] rfl⟩
    obtain ⟨y_2965, y_2966⟩ := v
    obtain ⟨b_y_2965, hl⟩ := hI
    have b_y_2965 : (0 : Int) ≤ y_2965.toInt ∧ y_2965.toInt ≤ 60 := b_y_2965
    have hl : lv_has ls 8 [(5, .int y_2965), (4, .int y_2966), (3, .int r_2949), (0, .ref o0), (1, .int a1), (2, .int a2)] := hl
    refine lv_iload hx hb dX10_kept_19 (lv_at hl 0 rfl) ?_
    refine lv_aload_n hx hb dX10_kept_21 rfl (lv_at hl 3 rfl) ?_
    refine va_get (D := (dC, dI)) (ci := 8) (v := .ref mma) (C := RX10) (T := TX10) (N := 33) hx hb hts iX10_kept_X10 hown hK hP 0 rfl rfl 29 (by decide) (hts (.fieldLink RX10 65 "LuckyTicketModel" "many" "[I") (List.mem_of_getElem? (i := 5) rfl)) (fun _ h9 => h9) rfl dX10_kept_22 ?_
    refine lv_iload_n hx hb dX10_kept_25 rfl (lv_at hl 4 rfl) ?_
    refine va_iald hx hb hK hP 4 3 rfl rfl (vp_in_b b_a1 (by decide) (by decide)) dX10_kept_26 ?_
    refine lv_topi (fun z_5692 e_z_5692 => ?_)
    have b_z_5692 : (-1 : Int) ≤ z_5692.toInt ∧ z_5692.toInt ≤ 60 := rg_at ha_mma (vp_in_b b_a1 (by decide) (by decide)) e_z_5692
    refine lv_icmp_ge (tgt := 117) hx hb dX10_kept_27 (by decide) (fun c_5693 => ?_) (fun c_5693 => ?_)
    ·
      have n_c_5693 : (z_5692.toInt : Int) ≤ y_2965.toInt := c_ge rfl rfl c_5693
      refine lv_iload hx hb dX10_kept_117 (lv_at hl 1 rfl) ?_
      exact W.iret (v := y_2966) hx hb hr (fun t ht hW => ⟨y_2966, rfl, trivial, ht⟩) t_nil dX10_kept_119
    ·
      have n_c_5693 : (y_2965.toInt : Int) < z_5692.toInt := c_nge rfl rfl c_5693
      have b_y_2965 : (0 : Int) ≤ y_2965.toInt ∧ y_2965.toInt ≤ 59 := r_lt1 b_y_2965 b_z_5692 n_c_5693 (by decide)
      have b_z_5692 : (1 : Int) ≤ z_5692.toInt ∧ z_5692.toInt ≤ 60 := r_lt2 b_y_2965 b_z_5692 n_c_5693 (by decide)
      refine lv_aload_n hx hb dX10_kept_30 rfl (lv_at hl 3 rfl) ?_
      refine lv_iload_n hx hb dX10_kept_31 rfl (lv_at hl 4 rfl) ?_
      refine lv_iload hx hb dX10_kept_32 (lv_at hl 0 rfl) ?_
      refine lv_iload_n hx hb dX10_kept_34 rfl (lv_at hl 5 rfl) ?_
      refine vp_callSi (W.runV (As := [.int a1, .int y_2965, .int a2]) (rest := []) ⟨hx, hb, hml, hown, hts⟩ (kX10_isLuckyAt l dC dI o0 x_th mwo mim mhi mlu mtp x_td mfv x_sz x_at x_fr x_to x_va x_fk x_fp mfr mwt x_wt x_op x_jo mfg mpl x_dr mtm mfa mqu mmo mwy mwn mma mwi mnu mmv c_wo c_lu c_nu w_wo w_lu w_nu ln bs tk lw li a1 y_2965 a2 b_ln b_bs b_tk b_lw b_a1 b_y_2965 (hw0) (hw1) (hw2) (hw3) (hw4) (hwz)) (cwV 3 hts gX10_kept__X10_isLuckyAt_V424 rfl rfl rfl hd_yX10_isLuckyAt ⟨lel 3 3 rfl, lel 72 72 rfl⟩) ⟨pw_fb, rcv_X10 hK hP (q0 := 0) rfl, (pw_use hP hK hN [0, 1, 2, 3] rfl [0, 1, 2] rfl)⟩ rfl rfl hl.1 rfl (lv_room (Nat.le_of_ble_eq_true rfl)) dX10_kept_35 ⟨lel 0 0 rfl, lel 0 0 rfl⟩) (fun r_5694 h_r_5694 => ?_)
      have b_r_5694 := h_r_5694
      have b_r_5694 : (0 : Int) ≤ r_5694.toInt ∧ r_5694.toInt ≤ 1 := b_r_5694
      refine lv_istore (lv' := [(6, .int r_5694), (5, .int y_2965), (4, .int y_2966), (3, .int r_2949), (0, .ref o0), (1, .int a1), (2, .int a2)]) hx hb dX10_kept_38 hl (by decide) rfl (fun ls hl => ?_)
      refine lv_iconst (v := 0) hx hb dX10_kept_40 (by decide) ?_
      refine lv_istore (lv' := [(7, .int 0), (6, .int r_5694), (5, .int y_2965), (4, .int y_2966), (3, .int r_2949), (0, .ref o0), (1, .int a1), (2, .int a2)]) hx hb dX10_kept_41 hl (by decide) rfl (fun ls hl => ?_)
      refine loopP (σ := Int32 × Int32) (fun v => (59 - v.1.toInt).toNat) (fun v ls => ((0 : Int) ≤ v.1.toInt ∧ v.1.toInt ≤ 59) ∧ ((0 : Int) ≤ v.2.toInt ∧ v.2.toInt ≤ 1) ∧ lv_has ls 8 [(7, .int v.1), (6, .int v.2), (5, .int y_2965), (4, .int y_2966), (3, .int r_2949), (0, .ref o0), (1, .int a1), (2, .int a2)]) (fun v ls hI ih_43_5871 => ?_) ((0 : Int32), r_5694) ⟨(show (0 : Int) ≤ (0 : Int32).toInt ∧ (0 : Int32).toInt ≤ 59 from (rg_w (by decide : (0 : Int) ≤ (0 : Int32).toInt ∧ (0 : Int32).toInt ≤ 0) (by decide) (by decide))), (show (0 : Int) ≤ r_5694.toInt ∧ r_5694.toInt ≤ 1 from b_r_5694), lv_sub hl [0, 1, 2, 3, 4, 5, 6, 7] rfl⟩
      obtain ⟨y_5720, y_5721⟩ := v
      obtain ⟨b_y_5720, b_y_5721, hl⟩ := hI
      have b_y_5720 : (0 : Int) ≤ y_5720.toInt ∧ y_5720.toInt ≤ 59 := b_y_5720
      have b_y_5721 : (0 : Int) ≤ y_5721.toInt ∧ y_5721.toInt ≤ 1 := b_y_5721
      have hl : lv_has ls 8 [(7, .int y_5720), (6, .int y_5721), (5, .int y_2965), (4, .int y_2966), (3, .int r_2949), (0, .ref o0), (1, .int a1), (2, .int a2)] := hl
      refine lv_iload hx hb dX10_kept_43 (lv_at hl 0 rfl) ?_
      refine lv_iload hx hb dX10_kept_45 (lv_at hl 2 rfl) ?_
      refine cutP (σ := Unit) (pc2 := 96) (st2 := fun v => []) (cells2 := 0) (slots2 := 0) (fun v ls => lv_has ls 8 [(7, .int y_5720), (6, .int y_5721), (5, .int y_2965), (4, .int y_2966), (3, .int r_2949), (0, .ref o0), (1, .int a1), (2, .int a2)]) (fun v ls hI => ?_) (fun hj_96_5882 => ?_)
      ·
        have hl := hI
        have hl : lv_has ls 8 [(7, .int y_5720), (6, .int y_5721), (5, .int y_2965), (4, .int y_2966), (3, .int r_2949), (0, .ref o0), (1, .int a1), (2, .int a2)] := hl
        refine lv_iload hx hb dX10_kept_96 (lv_at hl 3 rfl) ?_
        refine lv_iload hx hb dX10_kept_98 (lv_at hl 1 rfl) ?_
        refine cutP (σ := Int32) (pc2 := 108) (st2 := fun v => [.int v, .int y_2966]) (cells2 := 0) (slots2 := 0) (fun v ls => ((0 : Int) ≤ v.toInt ∧ v.toInt ≤ 1) ∧ lv_has ls 8 [(7, .int y_5720), (6, .int y_5721), (5, .int y_2965), (4, .int y_2966), (3, .int r_2949), (0, .ref o0), (1, .int a1), (2, .int a2)]) (fun v ls hI => ?_) (fun hj_108_5884 => ?_)
        ·
          obtain ⟨y_5884, rfl⟩ : ∃ z, z = v := ⟨_, rfl⟩
          obtain ⟨b_y_5884, hl⟩ := hI
          have b_y_5884 : (0 : Int) ≤ y_5884.toInt ∧ y_5884.toInt ≤ 1 := b_y_5884
          have hl : lv_has ls 8 [(7, .int y_5720), (6, .int y_5721), (5, .int y_2965), (4, .int y_2966), (3, .int r_2949), (0, .ref o0), (1, .int a1), (2, .int a2)] := hl
          refine lv_iadd hx hb dX10_kept_108 ?_
          refine lv_topi (fun z_5885 e_z_5885 => ?_)
          refine lv_istore (lv' := [(4, .int z_5885), (7, .int y_5720), (6, .int y_5721), (5, .int y_2965), (3, .int r_2949), (0, .ref o0), (1, .int a1), (2, .int a2)]) hx hb dX10_kept_109 hl (by decide) rfl (fun ls hl => ?_)
          obtain ⟨z_5886, e_z_5886⟩ : ∃ y : Int32, y = y_2965 + 1 := ⟨_, rfl⟩
          refine lv_iinc (v := z_5886) (lv' := [(5, .int z_5886), (4, .int z_5885), (7, .int y_5720), (6, .int y_5721), (3, .int r_2949), (0, .ref o0), (1, .int a1), (2, .int a2)]) hx hb dX10_kept_111 hl (k := 3) rfl (by rw [e_z_5886]; rfl) (by decide) rfl (fun ls hl => ?_)
          obtain ⟨q_z_5886, b_z_5886⟩ := ti_add (lo := 1) (hi := 60) e_z_5886 rfl (by decide : (1 : Int32).toInt = 1) b_y_2965 (by decide : (1 : Int) ≤ (1 : Int32).toInt ∧ (1 : Int32).toInt ≤ 1) (by decide)
          refine lv_goto (tgt := 19) hx hb dX10_kept_114 (by decide) ?_
          exact ih_19_5691 (z_5886, z_5885) _ ⟨(show (0 : Int) ≤ z_5886.toInt ∧ z_5886.toInt ≤ 60 from (rg_w b_z_5886 (by decide) (by decide))), lv_sub hl [0, 1, 4, 5, 6, 7] rfl⟩ (show (60 - z_5886.toInt).toNat < (60 - y_2965.toInt).toNat by omega)
        ·
          refine lv_if_eq (tgt := 107) hx hb dX10_kept_100 (by decide) (fun c_5883 => ?_) (fun c_5883 => ?_)
          ·
            have n_c_5883 : (y_5721.toInt : Int) = 0 := c_eq rfl (by decide) c_5883
            have b_y_5721 : (0 : Int) ≤ y_5721.toInt ∧ y_5721.toInt ≤ 0 := r_eq1 b_y_5721 (by decide : (0 : Int) ≤ (0 : Int32).toInt ∧ (0 : Int32).toInt ≤ 0) n_c_5883 (by decide)
            refine lv_iconst (v := 0) hx hb dX10_kept_107 (by decide) ?_
            exact hj_108_5884 (0 : Int32) _ ⟨(show (0 : Int) ≤ (0 : Int32).toInt ∧ (0 : Int32).toInt ≤ 1 from (rg_w (by decide : (0 : Int) ≤ (0 : Int32).toInt ∧ (0 : Int32).toInt ≤ 0) (by decide) (by decide))), lv_sub hl [0, 1, 2, 3, 4, 5, 6, 7] rfl⟩
          ·
            have n_c_5883 : (y_5721.toInt : Int) ≠ 0 := c_ne rfl (by decide) c_5883
            have b_y_5721 : (1 : Int) ≤ y_5721.toInt ∧ y_5721.toInt ≤ 1 := r_ne1 b_y_5721 (by decide : (0 : Int) ≤ (0 : Int32).toInt ∧ (0 : Int32).toInt ≤ 0) n_c_5883 (by decide)
            refine lv_iconst (v := 1) hx hb dX10_kept_103 (by decide) ?_
            refine lv_goto (tgt := 108) hx hb dX10_kept_104 (by decide) ?_
            exact hj_108_5884 (1 : Int32) _ ⟨(show (0 : Int) ≤ (1 : Int32).toInt ∧ (1 : Int32).toInt ≤ 1 from (rg_w (by decide : (1 : Int) ≤ (1 : Int32).toInt ∧ (1 : Int32).toInt ≤ 1) (by decide) (by decide))), lv_sub hl [0, 1, 2, 3, 4, 5, 6, 7] rfl⟩
      ·
        refine lv_icmp_ge (tgt := 96) hx hb dX10_kept_47 (by decide) (fun c_5872 => ?_) (fun c_5872 => ?_)
        ·
          have n_c_5872 : (y_2965.toInt : Int) ≤ y_5720.toInt := c_ge rfl rfl c_5872
          exact hj_96_5882 () _ (lv_sub hl [0, 1, 2, 3, 4, 5, 6, 7] rfl)
        ·
          have n_c_5872 : (y_5720.toInt : Int) < y_2965.toInt := c_nge rfl rfl c_5872
          have b_y_5720 : (0 : Int) ≤ y_5720.toInt ∧ y_5720.toInt ≤ 58 := r_lt1 b_y_5720 b_y_2965 n_c_5872 (by decide)
          have b_y_2965 : (1 : Int) ≤ y_2965.toInt ∧ y_2965.toInt ≤ 59 := r_lt2 b_y_5720 b_y_2965 n_c_5872 (by decide)
          refine lv_iload hx hb dX10_kept_50 (lv_at hl 1 rfl) ?_
          refine lv_if_eq (tgt := 96) hx hb dX10_kept_52 (by decide) (fun c_5887 => ?_) (fun c_5887 => ?_)
          ·
            have n_c_5887 : (y_5721.toInt : Int) = 0 := c_eq rfl (by decide) c_5887
            have b_y_5721 : (0 : Int) ≤ y_5721.toInt ∧ y_5721.toInt ≤ 0 := r_eq1 b_y_5721 (by decide : (0 : Int) ≤ (0 : Int32).toInt ∧ (0 : Int32).toInt ≤ 0) n_c_5887 (by decide)
            exact hj_96_5882 () _ (lv_sub hl [0, 1, 2, 3, 4, 5, 6, 7] rfl)
          ·
            have n_c_5887 : (y_5721.toInt : Int) ≠ 0 := c_ne rfl (by decide) c_5887
            have b_y_5721 : (1 : Int) ≤ y_5721.toInt ∧ y_5721.toInt ≤ 1 := r_ne1 b_y_5721 (by decide : (0 : Int) ≤ (0 : Int32).toInt ∧ (0 : Int32).toInt ≤ 0) n_c_5887 (by decide)
            refine lv_aload_n hx hb dX10_kept_55 rfl (lv_at hl 5 rfl) ?_
            refine va_get (D := (dC, dI)) (ci := 8) (v := .ref mnu) (C := RX10) (T := TX10) (N := 33) hx hb hts iX10_kept_X10 hown hK hP 0 rfl rfl 31 (by decide) (hts (.fieldLink RX10 71 "LuckyTicketModel" "numbers" "[J") (List.mem_of_getElem? (i := 9) rfl)) (fun _ h9 => h9) rfl dX10_kept_56 ?_
            refine lv_bipush (v := 60) hx hb dX10_kept_59 (by decide) ?_
            refine lv_iload_n hx hb dX10_kept_61 rfl (lv_at hl 6 rfl) ?_
            refine lv_imul hx hb dX10_kept_62 ?_
            refine lv_topi (fun z_5888 e_z_5888 => ?_)
            obtain ⟨q_z_5888, b_z_5888⟩ := ti_mul (lo := 0) (hi := 180) e_z_5888 (by decide : (60 : Int32).toInt = 60) rfl (by decide : (60 : Int) ≤ (60 : Int32).toInt ∧ (60 : Int32).toInt ≤ 60) b_a1 (by decide)
            refine lv_iload hx hb dX10_kept_63 (lv_at hl 0 rfl) ?_
            refine lv_iadd hx hb dX10_kept_65 ?_
            refine lv_topi (fun z_5889 e_z_5889 => ?_)
            obtain ⟨q_z_5889, b_z_5889⟩ := ti_add (lo := 0) (hi := 238) e_z_5889 rfl rfl b_z_5888 b_y_5720 (by decide)
            refine va_lald hx hb hK hP 3 2 rfl rfl (vp_in_b b_z_5889 (by decide) (by decide)) dX10_kept_66 ?_
            refine lv_topl (fun z_5890 e_z_5890 => ?_)
            refine lv_aload_n hx hb dX10_kept_67 rfl (lv_at hl 5 rfl) ?_
            refine va_get (D := (dC, dI)) (ci := 8) (v := .ref mnu) (C := RX10) (T := TX10) (N := 33) hx hb hts iX10_kept_X10 hown hK hP 0 rfl rfl 31 (by decide) (hts (.fieldLink RX10 71 "LuckyTicketModel" "numbers" "[J") (List.mem_of_getElem? (i := 9) rfl)) (fun _ h9 => h9) rfl dX10_kept_68 ?_
            refine lv_bipush (v := 60) hx hb dX10_kept_71 (by decide) ?_
            refine lv_iload_n hx hb dX10_kept_73 rfl (lv_at hl 6 rfl) ?_
            refine lv_imul hx hb dX10_kept_74 ?_
            refine lv_topi (fun z_5891 e_z_5891 => ?_)
            obtain ⟨q_z_5891, b_z_5891⟩ := ti_mul (lo := 0) (hi := 180) e_z_5891 (by decide : (60 : Int32).toInt = 60) rfl (by decide : (60 : Int) ≤ (60 : Int32).toInt ∧ (60 : Int32).toInt ≤ 60) b_a1 (by decide)
            refine lv_iload hx hb dX10_kept_75 (lv_at hl 2 rfl) ?_
            refine lv_iadd hx hb dX10_kept_77 ?_
            refine lv_topi (fun z_5892 e_z_5892 => ?_)
            obtain ⟨q_z_5892, b_z_5892⟩ := ti_add (lo := 1) (hi := 239) e_z_5892 rfl rfl b_z_5891 b_y_2965 (by decide)
            refine va_lald hx hb hK hP 3 2 rfl rfl (vp_in_b b_z_5892 (by decide) (by decide)) dX10_kept_78 ?_
            refine lv_topl (fun z_5893 e_z_5893 => ?_)
            refine W.lcmp hx hb dX10_kept_79 ?_
            refine cutP (σ := Int32) (pc2 := 88) (st2 := fun v => [.int v]) (cells2 := 0) (slots2 := 0) (fun v ls => ((0 : Int) ≤ v.toInt ∧ v.toInt ≤ 1) ∧ lv_has ls 8 [(7, .int y_5720), (6, .int y_5721), (5, .int y_2965), (4, .int y_2966), (3, .int r_2949), (0, .ref o0), (1, .int a1), (2, .int a2)]) (fun v ls hI => ?_) (fun hj_88_5895 => ?_)
            ·
              obtain ⟨y_5895, rfl⟩ : ∃ z, z = v := ⟨_, rfl⟩
              obtain ⟨b_y_5895, hl⟩ := hI
              have b_y_5895 : (0 : Int) ≤ y_5895.toInt ∧ y_5895.toInt ≤ 1 := b_y_5895
              have hl : lv_has ls 8 [(7, .int y_5720), (6, .int y_5721), (5, .int y_2965), (4, .int y_2966), (3, .int r_2949), (0, .ref o0), (1, .int a1), (2, .int a2)] := hl
              refine lv_istore (lv' := [(6, .int y_5895), (7, .int y_5720), (5, .int y_2965), (4, .int y_2966), (3, .int r_2949), (0, .ref o0), (1, .int a1), (2, .int a2)]) hx hb dX10_kept_88 hl (by decide) rfl (fun ls hl => ?_)
              obtain ⟨z_5896, e_z_5896⟩ : ∃ y : Int32, y = y_5720 + 1 := ⟨_, rfl⟩
              refine lv_iinc (v := z_5896) (lv' := [(7, .int z_5896), (6, .int y_5895), (5, .int y_2965), (4, .int y_2966), (3, .int r_2949), (0, .ref o0), (1, .int a1), (2, .int a2)]) hx hb dX10_kept_90 hl (k := 1) rfl (by rw [e_z_5896]; rfl) (by decide) rfl (fun ls hl => ?_)
              obtain ⟨q_z_5896, b_z_5896⟩ := ti_add (lo := 1) (hi := 59) e_z_5896 rfl (by decide : (1 : Int32).toInt = 1) b_y_5720 (by decide : (1 : Int) ≤ (1 : Int32).toInt ∧ (1 : Int32).toInt ≤ 1) (by decide)
              refine lv_goto (tgt := 43) hx hb dX10_kept_93 (by decide) ?_
              exact ih_43_5871 (z_5896, y_5895) _ ⟨(show (0 : Int) ≤ z_5896.toInt ∧ z_5896.toInt ≤ 59 from (rg_w b_z_5896 (by decide) (by decide))), (show (0 : Int) ≤ y_5895.toInt ∧ y_5895.toInt ≤ 1 from b_y_5895), lv_sub hl [0, 1, 2, 3, 4, 5, 6, 7] rfl⟩ (show (59 - z_5896.toInt).toNat < (59 - y_5720.toInt).toNat by omega)
            ·
              refine lv_if_eq (tgt := 87) hx hb dX10_kept_80 (by decide) (fun c_5894 => ?_) (fun c_5894 => ?_)
              ·
                have n_c_5894 : (z_5890.toInt : Int) = z_5893.toInt := g_eq rfl rfl c_5894
                refine lv_iconst (v := 0) hx hb dX10_kept_87 (by decide) ?_
                exact hj_88_5895 (0 : Int32) _ ⟨(show (0 : Int) ≤ (0 : Int32).toInt ∧ (0 : Int32).toInt ≤ 1 from (rg_w (by decide : (0 : Int) ≤ (0 : Int32).toInt ∧ (0 : Int32).toInt ≤ 0) (by decide) (by decide))), lv_sub hl [0, 1, 2, 3, 4, 5, 6, 7] rfl⟩
              ·
                have n_c_5894 : (z_5890.toInt : Int) ≠ z_5893.toInt := g_ne rfl rfl c_5894
                refine lv_iconst (v := 1) hx hb dX10_kept_83 (by decide) ?_
                refine lv_goto (tgt := 88) hx hb dX10_kept_84 (by decide) ?_
                exact hj_88_5895 (1 : Int32) _ ⟨(show (0 : Int) ≤ (1 : Int32).toInt ∧ (1 : Int32).toInt ≤ 1 from (rg_w (by decide : (1 : Int) ≤ (1 : Int32).toInt ∧ (1 : Int32).toInt ≤ 1) (by decide) (by decide))), lv_sub hl [0, 1, 2, 3, 4, 5, 6, 7] rfl⟩
  ·
    have n_c_2950 : (r_2949.toInt : Int) < 0 := c_nge rfl (by decide) c_2950
    have b_r_2949 : (-6 : Int) ≤ r_2949.toInt ∧ r_2949.toInt ≤ -1 := r_lt1 b_r_2949 (by decide : (0 : Int) ≤ (0 : Int32).toInt ∧ (0 : Int32).toInt ≤ 0) n_c_2950 (by decide)
    refine lv_iload_n hx hb dX10_kept_11 rfl (lv_at hl 0 rfl) ?_
    exact W.iret (v := r_2949) hx hb hr (fun t ht hW => ⟨r_2949, rfl, trivial, ht⟩) t_nil dX10_kept_12
theorem dX10_have_0 : decode cX10_have 0 = .ok (.aload_n 0, 1) := by decide +kernel
theorem dX10_have_1 : decode cX10_have 1 = .ok (.iload_n 1, 1) := by decide +kernel
theorem dX10_have_2 : decode cX10_have 2 = .ok (.invokevirtual 89, 3) := by decide +kernel
theorem dX10_have_5 : decode cX10_have 5 = .ok (.ifCond .eq 7, 3) := by decide +kernel
theorem dX10_have_8 : decode cX10_have 8 = .ok (.iload_n 2, 1) := by decide +kernel
theorem dX10_have_9 : decode cX10_have 9 = .ok (.ifCond .ge 6, 3) := by decide +kernel
theorem dX10_have_12 : decode cX10_have 12 = .ok (.bipush (-2), 2) := by decide +kernel
theorem dX10_have_14 : decode cX10_have 14 = .ok (.ireturn, 1) := by decide +kernel
theorem dX10_have_15 : decode cX10_have 15 = .ok (.iconst 0, 1) := by decide +kernel
theorem dX10_have_16 : decode cX10_have 16 = .ok (.istore_n 3, 1) := by decide +kernel
theorem dX10_have_17 : decode cX10_have 17 = .ok (.iconst 0, 1) := by decide +kernel
theorem dX10_have_18 : decode cX10_have 18 = .ok (.istore 4, 2) := by decide +kernel
theorem dX10_have_20 : decode cX10_have 20 = .ok (.iload 4, 2) := by decide +kernel
theorem dX10_have_22 : decode cX10_have 22 = .ok (.aload_n 0, 1) := by decide +kernel
theorem dX10_have_23 : decode cX10_have 23 = .ok (.getfield 9, 3) := by decide +kernel
theorem dX10_have_26 : decode cX10_have 26 = .ok (.iconst 2, 1) := by decide +kernel
theorem dX10_have_27 : decode cX10_have 27 = .ok (.iaload, 1) := by decide +kernel
theorem dX10_have_28 : decode cX10_have 28 = .ok (.if_icmp .ge 48, 3) := by decide +kernel
theorem dX10_have_31 : decode cX10_have 31 = .ok (.aload_n 0, 1) := by decide +kernel
theorem dX10_have_32 : decode cX10_have 32 = .ok (.iload_n 1, 1) := by decide +kernel
theorem dX10_have_33 : decode cX10_have 33 = .ok (.iload 4, 2) := by decide +kernel
theorem dX10_have_35 : decode cX10_have 35 = .ok (.invokevirtual 316, 3) := by decide +kernel
theorem dX10_have_38 : decode cX10_have 38 = .ok (.ifCond .ne 6, 3) := by decide +kernel
theorem dX10_have_41 : decode cX10_have 41 = .ok (.goto 29, 3) := by decide +kernel
theorem dX10_have_44 : decode cX10_have 44 = .ok (.aload_n 0, 1) := by decide +kernel
theorem dX10_have_45 : decode cX10_have 45 = .ok (.iload 4, 2) := by decide +kernel
theorem dX10_have_47 : decode cX10_have 47 = .ok (.invokevirtual 302, 3) := by decide +kernel
theorem dX10_have_50 : decode cX10_have 50 = .ok (.iload_n 3, 1) := by decide +kernel
theorem dX10_have_51 : decode cX10_have 51 = .ok (.aload_n 0, 1) := by decide +kernel
theorem dX10_have_52 : decode cX10_have 52 = .ok (.aload_n 0, 1) := by decide +kernel
theorem dX10_have_53 : decode cX10_have 53 = .ok (.invokevirtual 277, 3) := by decide +kernel
theorem dX10_have_56 : decode cX10_have 56 = .ok (.invokevirtual 280, 3) := by decide +kernel
theorem dX10_have_59 : decode cX10_have 59 = .ok (.iload_n 2, 1) := by decide +kernel
theorem dX10_have_60 : decode cX10_have 60 = .ok (.if_icmp .ne 7, 3) := by decide +kernel
theorem dX10_have_63 : decode cX10_have 63 = .ok (.iconst 1, 1) := by decide +kernel
theorem dX10_have_64 : decode cX10_have 64 = .ok (.goto 4, 3) := by decide +kernel
theorem dX10_have_67 : decode cX10_have 67 = .ok (.iconst 0, 1) := by decide +kernel
theorem dX10_have_68 : decode cX10_have 68 = .ok (.iadd, 1) := by decide +kernel
theorem dX10_have_69 : decode cX10_have 69 = .ok (.istore_n 3, 1) := by decide +kernel
theorem dX10_have_70 : decode cX10_have 70 = .ok (.iinc 4 1, 3) := by decide +kernel
theorem dX10_have_73 : decode cX10_have 73 = .ok (.goto (-53), 3) := by decide +kernel
theorem dX10_have_76 : decode cX10_have 76 = .ok (.iload_n 3, 1) := by decide +kernel
theorem dX10_have_77 : decode cX10_have 77 = .ok (.ireturn, 1) := by decide +kernel
theorem hd_yX10_have : yX10_have.cls = RX10 ∧ yX10_have.cls ≠ "java/lang/invoke/MethodHandle" ∧ yX10_have.cls ≠ "java/lang/invoke/VarHandle" ∧ (parseMethodDescriptor yX10_have.desc).map (fun d => d.parameters.length) = some 2 := by decide +kernel
def uX10_have : List Cond := List.cons (.code yX10_have cX10_have 5 (some .int)) (HAppend.hAppend ([.methodLink RX10 89 yX10_isLaw, .instanceMethod yX10_isLaw, .selects RX10 yX10_isLaw yX10_isLaw, .initialized RX10, .fieldLink RX10 9 "LuckyTicketModel" "world" "[I", .methodLink RX10 316 yX10_isLucky, .instanceMethod yX10_isLucky, .selects RX10 yX10_isLucky yX10_isLucky, .methodLink RX10 302 yX10_fillFigures, .instanceMethod yX10_fillFigures, .selects RX10 yX10_fillFigures yX10_fillFigures, .methodLink RX10 277 yX10_all, .instanceMethod yX10_all, .selects RX10 yX10_all yX10_all, .methodLink RX10 280 yX10_sumOf, .instanceMethod yX10_sumOf, .selects RX10 yX10_sumOf yX10_sumOf] : List Cond) (HAppend.hAppend uX10_isLaw (HAppend.hAppend uX10_isLucky (HAppend.hAppend uX10_fillFigures (HAppend.hAppend uX10_all (HAppend.hAppend uX10_sumOf wsX100))))))
theorem iX10_have_X10 : ∀ w ∈ wsX100, w ∈ uX10_have := fun _ h => (List.mem_cons_of_mem _ (List.mem_append_right _ (List.mem_append_right _ (List.mem_append_right _ (List.mem_append_right _ (List.mem_append_right _ (List.mem_append_right _ h)))))))
theorem guX10_have : GU uX10_have := gu_cons (gu_app (by decide +kernel) (gu_ap guX10_isLaw (gu_ap guX10_isLucky (gu_ap guX10_fillFigures (gu_ap guX10_all (gu_ap guX10_sumOf gws_X10))))))
theorem gX10_have__X10_isLaw_V89 : GoodIn uX10_have (wsV RX10 89 RX10 yX10_isLaw uX10_isLaw) := gin_V (List.mem_of_getElem? (i := 1) rfl) (List.mem_of_getElem? (i := 2) rfl) (List.mem_of_getElem? (i := 3) rfl) (List.mem_of_getElem? (i := 4) rfl) (fun _ h => (List.mem_cons_of_mem _ (List.mem_append_right _ (List.mem_append_left _ h)))) guX10_isLaw
theorem gX10_have__X10_isLucky_V316 : GoodIn uX10_have (wsV RX10 316 RX10 yX10_isLucky uX10_isLucky) := gin_V (List.mem_of_getElem? (i := 6) rfl) (List.mem_of_getElem? (i := 7) rfl) (List.mem_of_getElem? (i := 8) rfl) (List.mem_of_getElem? (i := 4) rfl) (fun _ h => (List.mem_cons_of_mem _ (List.mem_append_right _ (List.mem_append_right _ (List.mem_append_left _ h))))) guX10_isLucky
theorem gX10_have__X10_fillFigures_V302 : GoodIn uX10_have (wsV RX10 302 RX10 yX10_fillFigures uX10_fillFigures) := gin_V (List.mem_of_getElem? (i := 9) rfl) (List.mem_of_getElem? (i := 10) rfl) (List.mem_of_getElem? (i := 11) rfl) (List.mem_of_getElem? (i := 4) rfl) (fun _ h => (List.mem_cons_of_mem _ (List.mem_append_right _ (List.mem_append_right _ (List.mem_append_right _ (List.mem_append_left _ h)))))) guX10_fillFigures
theorem gX10_have__X10_all_V277 : GoodIn uX10_have (wsV RX10 277 RX10 yX10_all uX10_all) := gin_V (List.mem_of_getElem? (i := 12) rfl) (List.mem_of_getElem? (i := 13) rfl) (List.mem_of_getElem? (i := 14) rfl) (List.mem_of_getElem? (i := 4) rfl) (fun _ h => (List.mem_cons_of_mem _ (List.mem_append_right _ (List.mem_append_right _ (List.mem_append_right _ (List.mem_append_right _ (List.mem_append_left _ h))))))) guX10_all
theorem gX10_have__X10_sumOf_V280 : GoodIn uX10_have (wsV RX10 280 RX10 yX10_sumOf uX10_sumOf) := gin_V (List.mem_of_getElem? (i := 15) rfl) (List.mem_of_getElem? (i := 16) rfl) (List.mem_of_getElem? (i := 17) rfl) (List.mem_of_getElem? (i := 4) rfl) (fun _ h => (List.mem_cons_of_mem _ (List.mem_append_right _ (List.mem_append_right _ (List.mem_append_right _ (List.mem_append_right _ (List.mem_append_right _ (List.mem_append_left _ h)))))))) guX10_sumOf
set_option maxHeartbeats 4000000 in
set_option maxRecDepth 100000 in
theorem kX10_have (l : Launch) (dC : Nat → ClassId) (dI : Nat → Nat → Nat) (o0 : Nat) (x_th : Int32) (mwo : Nat) (mim : Nat) (mhi : Nat) (mlu : Nat) (mtp : Nat) (x_td : Int32) (mfv : Nat) (x_sz : Int32) (x_at : Int32) (x_fr : Int32) (x_to : Int32) (x_va : Int32) (x_fk : Int32) (x_fp : Int32) (mfr : Nat) (mwt : Nat) (x_wt : Int32) (x_op : Int32) (x_jo : Int32) (mfg : Nat) (mpl : Nat) (x_dr : Int64) (mtm : Nat) (mfa : Nat) (mqu : Nat) (mmo : Nat) (mwy : Nat) (mwn : Nat) (mma : Nat) (mwi : Nat) (mnu : Nat) (mmv : Nat) (c_wo : ClassId) (c_lu : ClassId) (c_fg : ClassId) (w_wo : Nat → Int32) (w_lu : Nat → Int32) (w_fg : Nat → Int32) (ln : Int32) (bs : Int32) (tk : Int32) (lw : Int32) (li : Int32) (a1 : Int32) (a2 : Int32) (sz : Nat) (b_ln : (0 : Int) ≤ ln.toInt ∧ ln.toInt ≤ 12) (b_bs : (0 : Int) ≤ bs.toInt ∧ bs.toInt ≤ 16) (b_tk : (0 : Int) ≤ tk.toInt ∧ tk.toInt ≤ 20000) (b_lw : (0 : Int) ≤ lw.toInt ∧ lw.toInt ≤ 9) (ha_mfg : rg w_fg 12 0 15) (hw0 : w_wo 0 = ln) (hw1 : w_wo 1 = bs) (hw2 : w_wo 2 = tk) (hw3 : w_wo 3 = lw) (hw4 : w_wo 4 = li) (hwz : (ln.toInt = 0 ∧ bs.toInt = 0 ∧ tk.toInt = 0 ∧ lw.toInt = 0) ∨ (1 ≤ ln.toInt ∧ 2 ≤ bs.toInt ∧ 1 ≤ tk.toInt)) : Met l yX10_have uX10_have ({ frames := 2, cells := 0, slots := 0, locals := 46 }) (va_Pc [.ref o0, .int a1, .int a2] (hw (dC, dI) vwCl [(o0, .inr (8, [.int x_th, .ref mwo, .ref mim, .ref mhi, .ref mlu, .ref mtp, .int x_td, .ref mfv, .int x_sz, .int x_at, .int x_fr, .int x_to, .int x_va, .int x_fk, .int x_fp, .ref mfr, .ref mwt, .int x_wt, .int x_op, .int x_jo, .ref mfg, .ref mpl, .long x_dr, .ref mtm, .ref mfa, .ref mqu, .ref mmo, .ref mwy, .ref mwn, .ref mma, .ref mwi, .ref mnu, .ref mmv])), (mwo, .inl (c_wo, 1875, .inl w_wo)), (mlu, .inl (c_lu, 20000, .inl w_lu)), (mfg, .inl (c_fg, 12, .inl w_fg))] [(c_wo, .int), (c_lu, .int), (c_fg, .int)] sz)) (va_Qi (fun (r : Int32) (_ : Unit) => True) (fun (_ : Unit) t => ∃ (o0_ : Nat → Int32), (rg o0_ 12 0 15) ∧ va_P (dC, dI) vwCl [(o0, .inr (8, [.int x_th, .ref mwo, .ref mim, .ref mhi, .ref mlu, .ref mtp, .int x_td, .ref mfv, .int x_sz, .int x_at, .int x_fr, .int x_to, .int x_va, .int x_fk, .int x_fp, .ref mfr, .ref mwt, .int x_wt, .int x_op, .int x_jo, .ref mfg, .ref mpl, .long x_dr, .ref mtm, .ref mfa, .ref mqu, .ref mmo, .ref mwy, .ref mwn, .ref mma, .ref mwi, .ref mnu, .ref mmv])), (mwo, .inl (c_wo, 1875, .inl w_wo)), (mlu, .inl (c_lu, 20000, .inl w_lu)), (mfg, .inl (c_fg, 12, .inl o0_))] t.heap ∧ va_K (dC, dI) vwCl [(c_wo, .int), (c_lu, .int), (c_fg, .int)] t ∧ va_D (va_A [(o0, .inr (8, [.int x_th, .ref mwo, .ref mim, .ref mhi, .ref mlu, .ref mtp, .int x_td, .ref mfv, .int x_sz, .int x_at, .int x_fr, .int x_to, .int x_va, .int x_fk, .int x_fp, .ref mfr, .ref mwt, .int x_wt, .int x_op, .int x_jo, .ref mfg, .ref mpl, .long x_dr, .ref mtm, .ref mfa, .ref mqu, .ref mmo, .ref mwy, .ref mwn, .ref mma, .ref mwi, .ref mnu, .ref mmv])), (mwo, .inl (c_wo, 1875, .inl w_wo)), (mlu, .inl (c_lu, 20000, .inl w_lu)), (mfg, .inl (c_fg, 12, .inl w_fg))] sz) [(o0, .inr (8, [.int x_th, .ref mwo, .ref mim, .ref mhi, .ref mlu, .ref mtp, .int x_td, .ref mfv, .int x_sz, .int x_at, .int x_fr, .int x_to, .int x_va, .int x_fk, .int x_fp, .ref mfr, .ref mwt, .int x_wt, .int x_op, .int x_jo, .ref mfg, .ref mpl, .long x_dr, .ref mtm, .ref mfa, .ref mqu, .ref mmo, .ref mwy, .ref mwn, .ref mma, .ref mwi, .ref mnu, .ref mmv])), (mwo, .inl (c_wo, 1875, .inl w_wo)), (mlu, .inl (c_lu, 20000, .inl w_lu)), (mfg, .inl (c_fg, 12, .inl o0_))]) (va_A [(o0, .inr (8, [.int x_th, .ref mwo, .ref mim, .ref mhi, .ref mlu, .ref mtp, .int x_td, .ref mfv, .int x_sz, .int x_at, .int x_fr, .int x_to, .int x_va, .int x_fk, .int x_fp, .ref mfr, .ref mwt, .int x_wt, .int x_op, .int x_jo, .ref mfg, .ref mpl, .long x_dr, .ref mtm, .ref mfa, .ref mqu, .ref mmo, .ref mwy, .ref mwn, .ref mma, .ref mwi, .ref mnu, .ref mmv])), (mwo, .inl (c_wo, 1875, .inl w_wo)), (mlu, .inl (c_lu, 20000, .inl w_lu)), (mfg, .inl (c_fg, 12, .inl w_fg))] sz)) 0 0 (va_A [(o0, .inr (8, [.int x_th, .ref mwo, .ref mim, .ref mhi, .ref mlu, .ref mtp, .int x_td, .ref mfv, .int x_sz, .int x_at, .int x_fr, .int x_to, .int x_va, .int x_fk, .int x_fp, .ref mfr, .ref mwt, .int x_wt, .int x_op, .int x_jo, .ref mfg, .ref mpl, .long x_dr, .ref mtm, .ref mfa, .ref mqu, .ref mmo, .ref mwy, .ref mwn, .ref mma, .ref mwi, .ref mnu, .ref mmv])), (mwo, .inl (c_wo, 1875, .inl w_wo)), (mlu, .inl (c_lu, 20000, .inl w_lu)), (mfg, .inl (c_fg, 12, .inl w_fg))] sz) := by
  refine Met.ofW (cc := cX10_have) (maxL := 5) (ret := (some .int)) pn_X10 rfl ?_
  intro p e s m args below meth c s₁ B hml hv
  obtain ⟨rfl, hsz, hP, hK, hD0, hN⟩ := hv
  have hx := B.exec
  have hb := B.bytes
  have hr := B.returns
  have hts := atoms_spec (ws := uX10_have) B.pre
  have hown : s.vm.findClass RX10 = some m.cls := hown_of B.named rfl
  have hlocks := B.notSynchronized
  subst hsz
  have hD := hD0.self (sz := s.heap.size)
  generalize hAe : va_A [(o0, .inr (8, [.int x_th, .ref mwo, .ref mim, .ref mhi, .ref mlu, .ref mtp, .int x_td, .ref mfv, .int x_sz, .int x_at, .int x_fr, .int x_to, .int x_va, .int x_fk, .int x_fp, .ref mfr, .ref mwt, .int x_wt, .int x_op, .int x_jo, .ref mfg, .ref mpl, .long x_dr, .ref mtm, .ref mfa, .ref mqu, .ref mmo, .ref mwy, .ref mwn, .ref mma, .ref mwi, .ref mnu, .ref mmv])), (mwo, .inl (c_wo, 1875, .inl w_wo)), (mlu, .inl (c_lu, 20000, .inl w_lu)), (mfg, .inl (c_fg, 12, .inl w_fg))] s.heap.size = A at hD ⊢
  have hA : ∀ q : Nat, s.heap.size ≤ q → A q := fun q h => by rw [← hAe]; exact Or.inr h
  have hS : va_S A s.heap s.heap [] := va_S.rf
  have hP : va_P (dC, dI) vwCl [(o0, .inr (8, [.int x_th, .ref mwo, .ref mim, .ref mhi, .ref mlu, .ref mtp, .int x_td, .ref mfv, .int x_sz, .int x_at, .int x_fr, .int x_to, .int x_va, .int x_fk, .int x_fp, .ref mfr, .ref mwt, .int x_wt, .int x_op, .int x_jo, .ref mfg, .ref mpl, .long x_dr, .ref mtm, .ref mfa, .ref mqu, .ref mmo, .ref mwy, .ref mwn, .ref mma, .ref mwi, .ref mnu, .ref mmv])), (mwo, .inl (c_wo, 1875, .inl w_wo)), (mlu, .inl (c_lu, 20000, .inl w_lu)), (mfg, .inl (c_fg, 12, .inl w_fg))] s.heap := hP
  have hl := lv_entry ([.ref o0, .int a1, .int a2]) (n := 5) (Nat.le_of_ble_eq_true rfl)
  rw [lg_entry_eq]
  generalize (lg_sl ([.ref o0, .int a1, .int a2]) ++ List.replicate (5 - (lg_sl ([.ref o0, .int a1, .int a2])).length) Slot.unset).toArray = ls at hl ⊢
  have hl : lv_has ls 5 [(0, .ref o0), (1, .int a1), (2, .int a2)] := hl
  refine lv_aload_n hx hb dX10_have_0 rfl (lv_at hl 0 rfl) ?_
  refine lv_iload_n hx hb dX10_have_1 rfl (lv_at hl 1 rfl) ?_
  refine vp_callSi (W.runV (As := [.int a1]) (rest := []) ⟨hx, hb, hml, hown, hts⟩ (kX10_isLaw l dC dI o0 x_th mwo mim mhi mlu mtp x_td mfv x_sz x_at x_fr x_to x_va x_fk x_fp mfr mwt x_wt x_op x_jo mfg mpl x_dr mtm mfa mqu mmo mwy mwn mma mwi mnu mmv c_wo w_wo ln bs tk lw li a1 b_ln b_bs b_tk b_lw (hw0) (hw1) (hw2) (hw3) (hw4) (hwz)) (cwV 1 hts gX10_have__X10_isLaw_V89 rfl rfl rfl hd_yX10_isLaw ⟨lel 2 2 rfl, lel 46 46 rfl⟩) ⟨pw_fb, rcv_X10 hK hP (q0 := 0) rfl, (pw_use hP hK hN [0, 1] rfl [0] rfl)⟩ rfl rfl hl.1 rfl (lv_room (Nat.le_of_ble_eq_true rfl)) dX10_have_2 ⟨lel 0 0 rfl, lel 0 0 rfl⟩) (fun r_433 h_r_433 => ?_)
  obtain ⟨b_r_433, nz_r_433⟩ := h_r_433
  have b_r_433 : (0 : Int) ≤ r_433.toInt ∧ r_433.toInt ≤ 1 := b_r_433
  refine lv_if_eq (tgt := 12) hx hb dX10_have_5 (by decide) (fun c_434 => ?_) (fun c_434 => ?_)
  ·
    have n_c_434 : (r_433.toInt : Int) = 0 := c_eq rfl (by decide) c_434
    have b_r_433 : (0 : Int) ≤ r_433.toInt ∧ r_433.toInt ≤ 0 := r_eq1 b_r_433 (by decide : (0 : Int) ≤ (0 : Int32).toInt ∧ (0 : Int32).toInt ≤ 0) n_c_434 (by decide)
    refine lv_bipush (v := (-2)) hx hb dX10_have_12 (by decide) ?_
    have hP9 := hP.sub (ws' := [(o0, .inr (8, [.int x_th, .ref mwo, .ref mim, .ref mhi, .ref mlu, .ref mtp, .int x_td, .ref mfv, .int x_sz, .int x_at, .int x_fr, .int x_to, .int x_va, .int x_fk, .int x_fp, .ref mfr, .ref mwt, .int x_wt, .int x_op, .int x_jo, .ref mfg, .ref mpl, .long x_dr, .ref mtm, .ref mfa, .ref mqu, .ref mmo, .ref mwy, .ref mwn, .ref mma, .ref mwi, .ref mnu, .ref mmv])), (mwo, .inl (c_wo, 1875, .inl w_wo)), (mlu, .inl (c_lu, 20000, .inl w_lu)), (mfg, .inl (c_fg, 12, .inl w_fg))]) [0, 1, 2, 3] rfl
    have hD9 := hD.sub (ws' := [(o0, .inr (8, [.int x_th, .ref mwo, .ref mim, .ref mhi, .ref mlu, .ref mtp, .int x_td, .ref mfv, .int x_sz, .int x_at, .int x_fr, .int x_to, .int x_va, .int x_fk, .int x_fp, .ref mfr, .ref mwt, .int x_wt, .int x_op, .int x_jo, .ref mfg, .ref mpl, .long x_dr, .ref mtm, .ref mfa, .ref mqu, .ref mmo, .ref mwy, .ref mwn, .ref mma, .ref mwi, .ref mnu, .ref mmv])), (mwo, .inl (c_wo, 1875, .inl w_wo)), (mlu, .inl (c_lu, 20000, .inl w_lu)), (mfg, .inl (c_fg, 12, .inl w_fg))]) [0, 1, 2, 3] (by decide) rfl
    have hK9 := hK.sub (tys' := [(c_wo, .int), (c_lu, .int), (c_fg, .int)]) [0, 1, 2] rfl
    exact W.iret (v := (-2)) hx hb hr (fun t ht hW => ⟨⟨(-2), (), rfl, trivial, w_fg, ha_mfg, by rw [ht]; exact hP9, va_K.moved hW.alike hK9, hD9⟩, hS.F ht⟩) hS.2.2 dX10_have_14
  ·
    have n_c_434 : (r_433.toInt : Int) ≠ 0 := c_ne rfl (by decide) c_434
    have b_r_433 : (1 : Int) ≤ r_433.toInt ∧ r_433.toInt ≤ 1 := r_ne1 b_r_433 (by decide : (0 : Int) ≤ (0 : Int32).toInt ∧ (0 : Int32).toInt ≤ 0) n_c_434 (by decide)
    obtain ⟨b_a1, g_435⟩ := nz_r_433 c_434
    refine lv_iload_n hx hb dX10_have_8 rfl (lv_at hl 2 rfl) ?_
    refine lv_if_ge (tgt := 15) hx hb dX10_have_9 (by decide) (fun c_436 => ?_) (fun c_436 => ?_)
    ·
      have n_c_436 : (0 : Int) ≤ a2.toInt := c_ge rfl (by decide) c_436
      have b_a2 : (0 : Int) ≤ a2.toInt ∧ a2.toInt ≤ 2147483647 := r_le2 (by decide : (0 : Int) ≤ (0 : Int32).toInt ∧ (0 : Int32).toInt ≤ 0) (ti_rng a2) n_c_436 (by decide)
      refine lv_iconst (v := 0) hx hb dX10_have_15 (by decide) ?_
      refine lv_istore_n (lv' := [(3, .int 0), (0, .ref o0), (1, .int a1), (2, .int a2)]) hx hb dX10_have_16 rfl hl (by decide) rfl (fun ls hl => ?_)
      refine lv_iconst (v := 0) hx hb dX10_have_17 (by decide) ?_
      refine lv_istore (lv' := [(4, .int 0), (3, .int 0), (0, .ref o0), (1, .int a1), (2, .int a2)]) hx hb dX10_have_18 hl (by decide) rfl (fun ls hl => ?_)
      refine loopW (σ := Int32 × Int32 × (Nat → Int32)) (fun v => (20000 - v.1.toInt).toNat) (fun v H locs ls => ((0 : Int) ≤ v.1.toInt ∧ v.1.toInt ≤ 20000) ∧ (rg v.2.2 12 0 15) ∧ va_P (dC, dI) vwCl [(o0, .inr (8, [.int x_th, .ref mwo, .ref mim, .ref mhi, .ref mlu, .ref mtp, .int x_td, .ref mfv, .int x_sz, .int x_at, .int x_fr, .int x_to, .int x_va, .int x_fk, .int x_fp, .ref mfr, .ref mwt, .int x_wt, .int x_op, .int x_jo, .ref mfg, .ref mpl, .long x_dr, .ref mtm, .ref mfa, .ref mqu, .ref mmo, .ref mwy, .ref mwn, .ref mma, .ref mwi, .ref mnu, .ref mmv])), (mwo, .inl (c_wo, 1875, .inl w_wo)), (mlu, .inl (c_lu, 20000, .inl w_lu)), (mfg, .inl (c_fg, 12, .inl v.2.2))] H ∧ va_D A [(o0, .inr (8, [.int x_th, .ref mwo, .ref mim, .ref mhi, .ref mlu, .ref mtp, .int x_td, .ref mfv, .int x_sz, .int x_at, .int x_fr, .int x_to, .int x_va, .int x_fk, .int x_fp, .ref mfr, .ref mwt, .int x_wt, .int x_op, .int x_jo, .ref mfg, .ref mpl, .long x_dr, .ref mtm, .ref mfa, .ref mqu, .ref mmo, .ref mwy, .ref mwn, .ref mma, .ref mwi, .ref mnu, .ref mmv])), (mwo, .inl (c_wo, 1875, .inl w_wo)), (mlu, .inl (c_lu, 20000, .inl w_lu)), (mfg, .inl (c_fg, 12, .inl v.2.2))] ∧ va_S A s.heap H locs ∧ lv_has ls 5 [(4, .int v.1), (3, .int v.2.1), (0, .ref o0), (1, .int a1), (2, .int a2)]) (fun v H locs ls hI ih_20_839 => ?_) ((0 : Int32), (0 : Int32), w_fg) ⟨(show (0 : Int) ≤ (0 : Int32).toInt ∧ (0 : Int32).toInt ≤ 20000 from (rg_w (by decide : (0 : Int) ≤ (0 : Int32).toInt ∧ (0 : Int32).toInt ≤ 0) (by decide) (by decide))), (show rg w_fg 12 0 15 from ha_mfg), hP, hD, hS, lv_sub hl [0, 1, 2, 3, 4] rfl⟩
      obtain ⟨y_462, y_463, f_464⟩ := v
      obtain ⟨b_y_462, ha_f_464, hP, hD, hS, hl⟩ := hI
      have b_y_462 : (0 : Int) ≤ y_462.toInt ∧ y_462.toInt ≤ 20000 := b_y_462
      have ha_f_464 : rg f_464 12 0 15 := ha_f_464
      have hP : va_P (dC, dI) vwCl [(o0, .inr (8, [.int x_th, .ref mwo, .ref mim, .ref mhi, .ref mlu, .ref mtp, .int x_td, .ref mfv, .int x_sz, .int x_at, .int x_fr, .int x_to, .int x_va, .int x_fk, .int x_fp, .ref mfr, .ref mwt, .int x_wt, .int x_op, .int x_jo, .ref mfg, .ref mpl, .long x_dr, .ref mtm, .ref mfa, .ref mqu, .ref mmo, .ref mwy, .ref mwn, .ref mma, .ref mwi, .ref mnu, .ref mmv])), (mwo, .inl (c_wo, 1875, .inl w_wo)), (mlu, .inl (c_lu, 20000, .inl w_lu)), (mfg, .inl (c_fg, 12, .inl f_464))] H := hP
      have hD : va_D A [(o0, .inr (8, [.int x_th, .ref mwo, .ref mim, .ref mhi, .ref mlu, .ref mtp, .int x_td, .ref mfv, .int x_sz, .int x_at, .int x_fr, .int x_to, .int x_va, .int x_fk, .int x_fp, .ref mfr, .ref mwt, .int x_wt, .int x_op, .int x_jo, .ref mfg, .ref mpl, .long x_dr, .ref mtm, .ref mfa, .ref mqu, .ref mmo, .ref mwy, .ref mwn, .ref mma, .ref mwi, .ref mnu, .ref mmv])), (mwo, .inl (c_wo, 1875, .inl w_wo)), (mlu, .inl (c_lu, 20000, .inl w_lu)), (mfg, .inl (c_fg, 12, .inl f_464))] := hD
      have hl : lv_has ls 5 [(4, .int y_462), (3, .int y_463), (0, .ref o0), (1, .int a1), (2, .int a2)] := hl
      refine lv_iload hx hb dX10_have_20 (lv_at hl 0 rfl) ?_
      refine lv_aload_n hx hb dX10_have_22 rfl (lv_at hl 2 rfl) ?_
      refine va_get (D := (dC, dI)) (ci := 8) (v := .ref mwo) (C := RX10) (T := TX10) (N := 33) hx hb hts iX10_have_X10 hown hK hP 0 rfl rfl 1 (by decide) (hts (.fieldLink RX10 9 "LuckyTicketModel" "world" "[I") (List.mem_of_getElem? (i := 5) rfl)) (fun _ h9 => h9) rfl dX10_have_23 ?_
      refine lv_iconst (v := 2) hx hb dX10_have_26 (by decide) ?_
      refine va_iald hx hb hK hP 1 0 rfl rfl (vp_in_b (by decide : (2 : Int) ≤ (2 : Int32).toInt ∧ (2 : Int32).toInt ≤ 2) (by decide) (by decide)) dX10_have_27 ?_
      refine lv_topi (fun z_840 e_z_840 => ?_)
      obtain rfl : tk = z_840 := (e_z_840.trans hw2).symm
      refine lv_icmp_ge (tgt := 76) hx hb dX10_have_28 (by decide) (fun c_841 => ?_) (fun c_841 => ?_)
      ·
        have n_c_841 : (tk.toInt : Int) ≤ y_462.toInt := c_ge rfl rfl c_841
        refine lv_iload_n hx hb dX10_have_76 rfl (lv_at hl 1 rfl) ?_
        have hP9 := hP.sub (ws' := [(o0, .inr (8, [.int x_th, .ref mwo, .ref mim, .ref mhi, .ref mlu, .ref mtp, .int x_td, .ref mfv, .int x_sz, .int x_at, .int x_fr, .int x_to, .int x_va, .int x_fk, .int x_fp, .ref mfr, .ref mwt, .int x_wt, .int x_op, .int x_jo, .ref mfg, .ref mpl, .long x_dr, .ref mtm, .ref mfa, .ref mqu, .ref mmo, .ref mwy, .ref mwn, .ref mma, .ref mwi, .ref mnu, .ref mmv])), (mwo, .inl (c_wo, 1875, .inl w_wo)), (mlu, .inl (c_lu, 20000, .inl w_lu)), (mfg, .inl (c_fg, 12, .inl f_464))]) [0, 1, 2, 3] rfl
        have hD9 := hD.sub (ws' := [(o0, .inr (8, [.int x_th, .ref mwo, .ref mim, .ref mhi, .ref mlu, .ref mtp, .int x_td, .ref mfv, .int x_sz, .int x_at, .int x_fr, .int x_to, .int x_va, .int x_fk, .int x_fp, .ref mfr, .ref mwt, .int x_wt, .int x_op, .int x_jo, .ref mfg, .ref mpl, .long x_dr, .ref mtm, .ref mfa, .ref mqu, .ref mmo, .ref mwy, .ref mwn, .ref mma, .ref mwi, .ref mnu, .ref mmv])), (mwo, .inl (c_wo, 1875, .inl w_wo)), (mlu, .inl (c_lu, 20000, .inl w_lu)), (mfg, .inl (c_fg, 12, .inl f_464))]) [0, 1, 2, 3] (by decide) rfl
        have hK9 := hK.sub (tys' := [(c_wo, .int), (c_lu, .int), (c_fg, .int)]) [0, 1, 2] rfl
        exact W.iret (v := y_463) hx hb hr (fun t ht hW => ⟨⟨y_463, (), rfl, trivial, f_464, ha_f_464, by rw [ht]; exact hP9, va_K.moved hW.alike hK9, hD9⟩, hS.F ht⟩) hS.2.2 dX10_have_77
      ·
        have n_c_841 : (y_462.toInt : Int) < tk.toInt := c_nge rfl rfl c_841
        have b_y_462 : (0 : Int) ≤ y_462.toInt ∧ y_462.toInt ≤ 19999 := r_lt1 b_y_462 b_tk n_c_841 (by decide)
        have b_tk : (1 : Int) ≤ tk.toInt ∧ tk.toInt ≤ 20000 := r_lt2 b_y_462 b_tk n_c_841 (by decide)
        refine lv_aload_n hx hb dX10_have_31 rfl (lv_at hl 2 rfl) ?_
        refine lv_iload_n hx hb dX10_have_32 rfl (lv_at hl 3 rfl) ?_
        refine lv_iload hx hb dX10_have_33 (lv_at hl 0 rfl) ?_
        refine vp_callSi (W.runV (As := [.int a1, .int y_462]) (rest := []) ⟨hx, hb, hml, hown, hts⟩ (kX10_isLucky l dC dI o0 x_th mwo mim mhi mlu mtp x_td mfv x_sz x_at x_fr x_to x_va x_fk x_fp mfr mwt x_wt x_op x_jo mfg mpl x_dr mtm mfa mqu mmo mwy mwn mma mwi mnu mmv c_wo c_lu w_wo w_lu ln bs tk lw li a1 y_462 b_ln b_bs (rg_w b_tk (by decide) (by decide)) b_lw b_y_462 (hw0) (hw1) (hw2) (hw3) (hw4) (hwz)) (cwV 2 hts gX10_have__X10_isLucky_V316 rfl rfl rfl hd_yX10_isLucky ⟨lel 1 2 rfl, lel 22 46 rfl⟩) ⟨pw_fb, rcv_X10 hK hP (q0 := 0) rfl, (pw_use hP hK hN [0, 1, 2] rfl [0, 1] rfl)⟩ rfl rfl hl.1 rfl (lv_room (Nat.le_of_ble_eq_true rfl)) dX10_have_35 ⟨lel 0 0 rfl, lel 0 0 rfl⟩) (fun r_842 h_r_842 => ?_)
        have b_r_842 := h_r_842
        have b_r_842 : (0 : Int) ≤ r_842.toInt ∧ r_842.toInt ≤ 1 := b_r_842
        refine cutW (σ := Int32 × (Nat → Int32)) (pc2 := 70) (st2 := fun v => []) (cells2 := 0) (slots2 := 0) (fun v H locs ls => (rg v.2 12 0 15) ∧ va_P (dC, dI) vwCl [(o0, .inr (8, [.int x_th, .ref mwo, .ref mim, .ref mhi, .ref mlu, .ref mtp, .int x_td, .ref mfv, .int x_sz, .int x_at, .int x_fr, .int x_to, .int x_va, .int x_fk, .int x_fp, .ref mfr, .ref mwt, .int x_wt, .int x_op, .int x_jo, .ref mfg, .ref mpl, .long x_dr, .ref mtm, .ref mfa, .ref mqu, .ref mmo, .ref mwy, .ref mwn, .ref mma, .ref mwi, .ref mnu, .ref mmv])), (mwo, .inl (c_wo, 1875, .inl w_wo)), (mlu, .inl (c_lu, 20000, .inl w_lu)), (mfg, .inl (c_fg, 12, .inl v.2))] H ∧ va_D A [(o0, .inr (8, [.int x_th, .ref mwo, .ref mim, .ref mhi, .ref mlu, .ref mtp, .int x_td, .ref mfv, .int x_sz, .int x_at, .int x_fr, .int x_to, .int x_va, .int x_fk, .int x_fp, .ref mfr, .ref mwt, .int x_wt, .int x_op, .int x_jo, .ref mfg, .ref mpl, .long x_dr, .ref mtm, .ref mfa, .ref mqu, .ref mmo, .ref mwy, .ref mwn, .ref mma, .ref mwi, .ref mnu, .ref mmv])), (mwo, .inl (c_wo, 1875, .inl w_wo)), (mlu, .inl (c_lu, 20000, .inl w_lu)), (mfg, .inl (c_fg, 12, .inl v.2))] ∧ va_S A s.heap H locs ∧ lv_has ls 5 [(3, .int v.1), (4, .int y_462), (0, .ref o0), (1, .int a1), (2, .int a2)]) (fun v H locs ls hI => ?_) (fun hj_70_854 => ?_)
        ·
          obtain ⟨y_853, f_854⟩ := v
          obtain ⟨ha_f_854, hP, hD, hS, hl⟩ := hI
          have ha_f_854 : rg f_854 12 0 15 := ha_f_854
          have hP : va_P (dC, dI) vwCl [(o0, .inr (8, [.int x_th, .ref mwo, .ref mim, .ref mhi, .ref mlu, .ref mtp, .int x_td, .ref mfv, .int x_sz, .int x_at, .int x_fr, .int x_to, .int x_va, .int x_fk, .int x_fp, .ref mfr, .ref mwt, .int x_wt, .int x_op, .int x_jo, .ref mfg, .ref mpl, .long x_dr, .ref mtm, .ref mfa, .ref mqu, .ref mmo, .ref mwy, .ref mwn, .ref mma, .ref mwi, .ref mnu, .ref mmv])), (mwo, .inl (c_wo, 1875, .inl w_wo)), (mlu, .inl (c_lu, 20000, .inl w_lu)), (mfg, .inl (c_fg, 12, .inl f_854))] H := hP
          have hD : va_D A [(o0, .inr (8, [.int x_th, .ref mwo, .ref mim, .ref mhi, .ref mlu, .ref mtp, .int x_td, .ref mfv, .int x_sz, .int x_at, .int x_fr, .int x_to, .int x_va, .int x_fk, .int x_fp, .ref mfr, .ref mwt, .int x_wt, .int x_op, .int x_jo, .ref mfg, .ref mpl, .long x_dr, .ref mtm, .ref mfa, .ref mqu, .ref mmo, .ref mwy, .ref mwn, .ref mma, .ref mwi, .ref mnu, .ref mmv])), (mwo, .inl (c_wo, 1875, .inl w_wo)), (mlu, .inl (c_lu, 20000, .inl w_lu)), (mfg, .inl (c_fg, 12, .inl f_854))] := hD
          have hl : lv_has ls 5 [(3, .int y_853), (4, .int y_462), (0, .ref o0), (1, .int a1), (2, .int a2)] := hl
          obtain ⟨z_855, e_z_855⟩ : ∃ y : Int32, y = y_462 + 1 := ⟨_, rfl⟩
          refine lv_iinc (v := z_855) (lv' := [(4, .int z_855), (3, .int y_853), (0, .ref o0), (1, .int a1), (2, .int a2)]) hx hb dX10_have_70 hl (k := 1) rfl (by rw [e_z_855]; rfl) (by decide) rfl (fun ls hl => ?_)
          obtain ⟨q_z_855, b_z_855⟩ := ti_add (lo := 1) (hi := 20000) e_z_855 rfl (by decide : (1 : Int32).toInt = 1) b_y_462 (by decide : (1 : Int) ≤ (1 : Int32).toInt ∧ (1 : Int32).toInt ≤ 1) (by decide)
          refine lv_goto (tgt := 20) hx hb dX10_have_73 (by decide) ?_
          exact ih_20_839 (z_855, y_853, f_854) _ _ _ ⟨(show (0 : Int) ≤ z_855.toInt ∧ z_855.toInt ≤ 20000 from (rg_w b_z_855 (by decide) (by decide))), (show rg f_854 12 0 15 from ha_f_854), hP, hD, hS, lv_sub hl [0, 1, 2, 3, 4] rfl⟩ (show (20000 - z_855.toInt).toNat < (20000 - y_462.toInt).toNat by omega)
        ·
          refine lv_if_ne (tgt := 44) hx hb dX10_have_38 (by decide) (fun c_843 => ?_) (fun c_843 => ?_)
          ·
            have n_c_843 : (r_842.toInt : Int) ≠ 0 := c_ne rfl (by decide) c_843
            have b_r_842 : (1 : Int) ≤ r_842.toInt ∧ r_842.toInt ≤ 1 := r_ne1 b_r_842 (by decide : (0 : Int) ≤ (0 : Int32).toInt ∧ (0 : Int32).toInt ≤ 0) n_c_843 (by decide)
            refine lv_aload_n hx hb dX10_have_44 rfl (lv_at hl 2 rfl) ?_
            refine lv_iload hx hb dX10_have_45 (lv_at hl 0 rfl) ?_
            have hFc := va_free (wc := [(o0, .inr (8, [.int x_th, .ref mwo, .ref mim, .ref mhi, .ref mlu, .ref mtp, .int x_td, .ref mfv, .int x_sz, .int x_at, .int x_fr, .int x_to, .int x_va, .int x_fk, .int x_fp, .ref mfr, .ref mwt, .int x_wt, .int x_op, .int x_jo, .ref mfg, .ref mpl, .long x_dr, .ref mtm, .ref mfa, .ref mqu, .ref mmo, .ref mwy, .ref mwn, .ref mma, .ref mwi, .ref mnu, .ref mmv])), (mwo, .inl (c_wo, 1875, .inl w_wo)), (mfg, .inl (c_fg, 12, .inl f_464))]) hD hS hA [0, 1, 3] rfl
            refine va_callv (va_runV (As := [.int y_462]) (rest := []) ⟨hx, hb, hml, hown, hts⟩ (kX10_fillFigures l dC dI o0 x_th mwo mim mhi mlu mtp x_td mfv x_sz x_at x_fr x_to x_va x_fk x_fp mfr mwt x_wt x_op x_jo mfg mpl x_dr mtm mfa mqu mmo mwy mwn mma mwi mnu mmv c_wo c_fg w_wo f_464 ln bs tk lw li y_462 (H.size) b_ln b_bs (rg_w b_tk (by decide) (by decide)) b_lw b_y_462 ha_f_464 (hw0) (hw1) (hw2) (hw3) (hw4) (hwz)) (cwV 1 hts gX10_have__X10_fillFigures_V302 rfl rfl rfl hd_yX10_fillFigures ⟨lel 1 2 rfl, lel 23 46 rfl⟩) ⟨hw_fb, rcv_X10 hK hP (q0 := 0) rfl, (hw_use hP hD hK hN [0, 1, 3] rfl (by decide) rfl [0, 2] rfl)⟩ rfl rfl hl.1 rfl (lv_room (Nat.le_of_ble_eq_true rfl)) dX10_have_47 ⟨lel 0 0 rfl, lel 0 0 rfl⟩) hS (fun q _ h => hFc q h) hFc (fun u_857 t H1 locs ht hvm hw_r_856 hB hz1 hk1 hS => ?_)
            obtain ⟨o0_858, ha_859, hP1, hK1, hD1⟩ := hB
            rw [ht] at hP1
            have hK1 := va_K.moved hvm.symm hK1
            obtain ⟨hP, hD⟩ := va_join (wr := [(mlu, .inl (c_lu, 20000, .inl w_lu))]) (w1 := [(o0, .inr (8, [.int x_th, .ref mwo, .ref mim, .ref mhi, .ref mlu, .ref mtp, .int x_td, .ref mfv, .int x_sz, .int x_at, .int x_fr, .int x_to, .int x_va, .int x_fk, .int x_fp, .ref mfr, .ref mwt, .int x_wt, .int x_op, .int x_jo, .ref mfg, .ref mpl, .long x_dr, .ref mtm, .ref mfa, .ref mqu, .ref mmo, .ref mwy, .ref mwn, .ref mma, .ref mwi, .ref mnu, .ref mmv])), (mwo, .inl (c_wo, 1875, .inl w_wo)), (mfg, .inl (c_fg, 12, .inl o0_858))]) hP hD [0, 1, 3] [2] rfl rfl (by decide) (by decide) hk1 hFc hP1 hD1
            have hK := (hK.sub (tys' := [(c_lu, .int)]) [1] rfl).app hK1
            generalize H1 = H at hP hS ⊢
            have hP := hP.sub (ws' := [(o0, .inr (8, [.int x_th, .ref mwo, .ref mim, .ref mhi, .ref mlu, .ref mtp, .int x_td, .ref mfv, .int x_sz, .int x_at, .int x_fr, .int x_to, .int x_va, .int x_fk, .int x_fp, .ref mfr, .ref mwt, .int x_wt, .int x_op, .int x_jo, .ref mfg, .ref mpl, .long x_dr, .ref mtm, .ref mfa, .ref mqu, .ref mmo, .ref mwy, .ref mwn, .ref mma, .ref mwi, .ref mnu, .ref mmv])), (mwo, .inl (c_wo, 1875, .inl w_wo)), (mlu, .inl (c_lu, 20000, .inl w_lu)), (mfg, .inl (c_fg, 12, .inl o0_858))]) [1, 2, 0, 3] rfl
            have hD := hD.sub (ws' := [(o0, .inr (8, [.int x_th, .ref mwo, .ref mim, .ref mhi, .ref mlu, .ref mtp, .int x_td, .ref mfv, .int x_sz, .int x_at, .int x_fr, .int x_to, .int x_va, .int x_fk, .int x_fp, .ref mfr, .ref mwt, .int x_wt, .int x_op, .int x_jo, .ref mfg, .ref mpl, .long x_dr, .ref mtm, .ref mfa, .ref mqu, .ref mmo, .ref mwy, .ref mwn, .ref mma, .ref mwi, .ref mnu, .ref mmv])), (mwo, .inl (c_wo, 1875, .inl w_wo)), (mlu, .inl (c_lu, 20000, .inl w_lu)), (mfg, .inl (c_fg, 12, .inl o0_858))]) [1, 2, 0, 3] (by decide) rfl
            have hK := hK.sub (tys' := [(c_wo, .int), (c_lu, .int), (c_fg, .int)]) [1, 0, 2] rfl
            have hP : va_P (dC, dI) vwCl [(o0, .inr (8, [.int x_th, .ref mwo, .ref mim, .ref mhi, .ref mlu, .ref mtp, .int x_td, .ref mfv, .int x_sz, .int x_at, .int x_fr, .int x_to, .int x_va, .int x_fk, .int x_fp, .ref mfr, .ref mwt, .int x_wt, .int x_op, .int x_jo, .ref mfg, .ref mpl, .long x_dr, .ref mtm, .ref mfa, .ref mqu, .ref mmo, .ref mwy, .ref mwn, .ref mma, .ref mwi, .ref mnu, .ref mmv])), (mwo, .inl (c_wo, 1875, .inl w_wo)), (mlu, .inl (c_lu, 20000, .inl w_lu)), (mfg, .inl (c_fg, 12, .inl o0_858))] H := hP
            have hD : va_D A [(o0, .inr (8, [.int x_th, .ref mwo, .ref mim, .ref mhi, .ref mlu, .ref mtp, .int x_td, .ref mfv, .int x_sz, .int x_at, .int x_fr, .int x_to, .int x_va, .int x_fk, .int x_fp, .ref mfr, .ref mwt, .int x_wt, .int x_op, .int x_jo, .ref mfg, .ref mpl, .long x_dr, .ref mtm, .ref mfa, .ref mqu, .ref mmo, .ref mwy, .ref mwn, .ref mma, .ref mwi, .ref mnu, .ref mmv])), (mwo, .inl (c_wo, 1875, .inl w_wo)), (mlu, .inl (c_lu, 20000, .inl w_lu)), (mfg, .inl (c_fg, 12, .inl o0_858))] := hD
            have hK : va_K (dC, dI) vwCl [(c_wo, .int), (c_lu, .int), (c_fg, .int)] s := hK
            refine lv_iload_n hx hb dX10_have_50 rfl (lv_at hl 1 rfl) ?_
            refine lv_aload_n hx hb dX10_have_51 rfl (lv_at hl 2 rfl) ?_
            refine lv_aload_n hx hb dX10_have_52 rfl (lv_at hl 2 rfl) ?_
            refine vp_callSi (W.runV (As := []) (rest := [.ref o0, .int y_463]) ⟨hx, hb, hml, hown, hts⟩ (kX10_all l dC dI o0 x_th mwo mim mhi mlu mtp x_td mfv x_sz x_at x_fr x_to x_va x_fk x_fp mfr mwt x_wt x_op x_jo mfg mpl x_dr mtm mfa mqu mmo mwy mwn mma mwi mnu mmv c_wo w_wo ln bs tk lw li b_ln b_bs (rg_w b_tk (by decide) (by decide)) b_lw (hw0) (hw1) (hw2) (hw3) (hw4) (hwz)) (cwV 0 hts gX10_have__X10_all_V277 rfl rfl rfl hd_yX10_all ⟨lel 1 2 rfl, lel 20 46 rfl⟩) ⟨pw_fb, rcv_X10 hK hP (q0 := 0) rfl, (pw_use hP hK hN [0, 1] rfl [0] rfl)⟩ rfl rfl hl.1 rfl (lv_room (Nat.le_of_ble_eq_true rfl)) dX10_have_53 ⟨lel 0 0 rfl, lel 0 0 rfl⟩) (fun r_860 h_r_860 => ?_)
            refine vp_callSi (W.runV (As := [.int r_860]) (rest := [.int y_463]) ⟨hx, hb, hml, hown, hts⟩ (kX10_sumOf l dC dI o0 x_th mwo mim mhi mlu mtp x_td mfv x_sz x_at x_fr x_to x_va x_fk x_fp mfr mwt x_wt x_op x_jo mfg mpl x_dr mtm mfa mqu mmo mwy mwn mma mwi mnu mmv c_wo c_fg w_wo o0_858 ln bs tk lw li r_860 b_ln b_bs (rg_w b_tk (by decide) (by decide)) b_lw ha_859 (hw0) (hw1) (hw2) (hw3) (hw4) (hwz)) (cwV 1 hts gX10_have__X10_sumOf_V280 rfl rfl rfl hd_yX10_sumOf ⟨lel 1 2 rfl, lel 23 46 rfl⟩) ⟨pw_fb, rcv_X10 hK hP (q0 := 0) rfl, (pw_use hP hK hN [0, 1, 3] rfl [0, 2] rfl)⟩ rfl rfl hl.1 rfl (lv_room (Nat.le_of_ble_eq_true rfl)) dX10_have_56 ⟨lel 0 0 rfl, lel 0 0 rfl⟩) (fun r_861 h_r_861 => ?_)
            have b_r_861 := h_r_861
            have b_r_861 : (0 : Int) ≤ r_861.toInt ∧ r_861.toInt ≤ 180 := b_r_861
            refine lv_iload_n hx hb dX10_have_59 rfl (lv_at hl 4 rfl) ?_
            refine cutW (σ := Int32) (pc2 := 68) (st2 := fun v => [.int v, .int y_463]) (cells2 := 0) (slots2 := 0) (fun v H locs ls => ((0 : Int) ≤ v.toInt ∧ v.toInt ≤ 1) ∧ va_P (dC, dI) vwCl [(o0, .inr (8, [.int x_th, .ref mwo, .ref mim, .ref mhi, .ref mlu, .ref mtp, .int x_td, .ref mfv, .int x_sz, .int x_at, .int x_fr, .int x_to, .int x_va, .int x_fk, .int x_fp, .ref mfr, .ref mwt, .int x_wt, .int x_op, .int x_jo, .ref mfg, .ref mpl, .long x_dr, .ref mtm, .ref mfa, .ref mqu, .ref mmo, .ref mwy, .ref mwn, .ref mma, .ref mwi, .ref mnu, .ref mmv])), (mwo, .inl (c_wo, 1875, .inl w_wo)), (mlu, .inl (c_lu, 20000, .inl w_lu)), (mfg, .inl (c_fg, 12, .inl o0_858))] H ∧ va_D A [(o0, .inr (8, [.int x_th, .ref mwo, .ref mim, .ref mhi, .ref mlu, .ref mtp, .int x_td, .ref mfv, .int x_sz, .int x_at, .int x_fr, .int x_to, .int x_va, .int x_fk, .int x_fp, .ref mfr, .ref mwt, .int x_wt, .int x_op, .int x_jo, .ref mfg, .ref mpl, .long x_dr, .ref mtm, .ref mfa, .ref mqu, .ref mmo, .ref mwy, .ref mwn, .ref mma, .ref mwi, .ref mnu, .ref mmv])), (mwo, .inl (c_wo, 1875, .inl w_wo)), (mlu, .inl (c_lu, 20000, .inl w_lu)), (mfg, .inl (c_fg, 12, .inl o0_858))] ∧ va_S A s.heap H locs ∧ lv_has ls 5 [(4, .int y_462), (3, .int y_463), (0, .ref o0), (1, .int a1), (2, .int a2)]) (fun v H locs ls hI => ?_) (fun hj_68_863 => ?_)
            ·
              obtain ⟨y_863, rfl⟩ : ∃ z, z = v := ⟨_, rfl⟩
              obtain ⟨b_y_863, hP, hD, hS, hl⟩ := hI
              have b_y_863 : (0 : Int) ≤ y_863.toInt ∧ y_863.toInt ≤ 1 := b_y_863
              have hP : va_P (dC, dI) vwCl [(o0, .inr (8, [.int x_th, .ref mwo, .ref mim, .ref mhi, .ref mlu, .ref mtp, .int x_td, .ref mfv, .int x_sz, .int x_at, .int x_fr, .int x_to, .int x_va, .int x_fk, .int x_fp, .ref mfr, .ref mwt, .int x_wt, .int x_op, .int x_jo, .ref mfg, .ref mpl, .long x_dr, .ref mtm, .ref mfa, .ref mqu, .ref mmo, .ref mwy, .ref mwn, .ref mma, .ref mwi, .ref mnu, .ref mmv])), (mwo, .inl (c_wo, 1875, .inl w_wo)), (mlu, .inl (c_lu, 20000, .inl w_lu)), (mfg, .inl (c_fg, 12, .inl o0_858))] H := hP
              have hD : va_D A [(o0, .inr (8, [.int x_th, .ref mwo, .ref mim, .ref mhi, .ref mlu, .ref mtp, .int x_td, .ref mfv, .int x_sz, .int x_at, .int x_fr, .int x_to, .int x_va, .int x_fk, .int x_fp, .ref mfr, .ref mwt, .int x_wt, .int x_op, .int x_jo, .ref mfg, .ref mpl, .long x_dr, .ref mtm, .ref mfa, .ref mqu, .ref mmo, .ref mwy, .ref mwn, .ref mma, .ref mwi, .ref mnu, .ref mmv])), (mwo, .inl (c_wo, 1875, .inl w_wo)), (mlu, .inl (c_lu, 20000, .inl w_lu)), (mfg, .inl (c_fg, 12, .inl o0_858))] := hD
              have hl : lv_has ls 5 [(4, .int y_462), (3, .int y_463), (0, .ref o0), (1, .int a1), (2, .int a2)] := hl
              refine lv_iadd hx hb dX10_have_68 ?_
              refine lv_topi (fun z_864 e_z_864 => ?_)
              refine lv_istore_n (lv' := [(3, .int z_864), (4, .int y_462), (0, .ref o0), (1, .int a1), (2, .int a2)]) hx hb dX10_have_69 rfl hl (by decide) rfl (fun ls hl => ?_)
              exact hj_70_854 (z_864, o0_858) _ _ _ ⟨(show rg o0_858 12 0 15 from ha_859), hP, hD, hS, lv_sub hl [0, 1, 2, 3, 4] rfl⟩
            ·
              refine lv_icmp_ne (tgt := 67) hx hb dX10_have_60 (by decide) (fun c_862 => ?_) (fun c_862 => ?_)
              ·
                have n_c_862 : (r_861.toInt : Int) ≠ a2.toInt := c_ne rfl rfl c_862
                refine lv_iconst (v := 0) hx hb dX10_have_67 (by decide) ?_
                exact hj_68_863 (0 : Int32) _ _ _ ⟨(show (0 : Int) ≤ (0 : Int32).toInt ∧ (0 : Int32).toInt ≤ 1 from (rg_w (by decide : (0 : Int) ≤ (0 : Int32).toInt ∧ (0 : Int32).toInt ≤ 0) (by decide) (by decide))), hP, hD, hS, lv_sub hl [0, 1, 2, 3, 4] rfl⟩
              ·
                have n_c_862 : (r_861.toInt : Int) = a2.toInt := c_eq rfl rfl c_862
                have b_a2 : (0 : Int) ≤ a2.toInt ∧ a2.toInt ≤ 180 := r_eq2 b_r_861 b_a2 n_c_862 (by decide)
                refine lv_iconst (v := 1) hx hb dX10_have_63 (by decide) ?_
                refine lv_goto (tgt := 68) hx hb dX10_have_64 (by decide) ?_
                exact hj_68_863 (1 : Int32) _ _ _ ⟨(show (0 : Int) ≤ (1 : Int32).toInt ∧ (1 : Int32).toInt ≤ 1 from (rg_w (by decide : (1 : Int) ≤ (1 : Int32).toInt ∧ (1 : Int32).toInt ≤ 1) (by decide) (by decide))), hP, hD, hS, lv_sub hl [0, 1, 2, 3, 4] rfl⟩
          ·
            have n_c_843 : (r_842.toInt : Int) = 0 := c_eq rfl (by decide) c_843
            have b_r_842 : (0 : Int) ≤ r_842.toInt ∧ r_842.toInt ≤ 0 := r_eq1 b_r_842 (by decide : (0 : Int) ≤ (0 : Int32).toInt ∧ (0 : Int32).toInt ≤ 0) n_c_843 (by decide)
            refine lv_goto (tgt := 70) hx hb dX10_have_41 (by decide) ?_
            exact hj_70_854 (y_463, f_464) _ _ _ ⟨(show rg f_464 12 0 15 from ha_f_464), hP, hD, hS, lv_sub hl [1, 0, 2, 3, 4] rfl⟩
    ·
      have n_c_436 : (a2.toInt : Int) < 0 := c_nge rfl (by decide) c_436
      have b_a2 : (-2147483648 : Int) ≤ a2.toInt ∧ a2.toInt ≤ -1 := r_lt1 (ti_rng a2) (by decide : (0 : Int) ≤ (0 : Int32).toInt ∧ (0 : Int32).toInt ≤ 0) n_c_436 (by decide)
      refine lv_bipush (v := (-2)) hx hb dX10_have_12 (by decide) ?_
      have hP9 := hP.sub (ws' := [(o0, .inr (8, [.int x_th, .ref mwo, .ref mim, .ref mhi, .ref mlu, .ref mtp, .int x_td, .ref mfv, .int x_sz, .int x_at, .int x_fr, .int x_to, .int x_va, .int x_fk, .int x_fp, .ref mfr, .ref mwt, .int x_wt, .int x_op, .int x_jo, .ref mfg, .ref mpl, .long x_dr, .ref mtm, .ref mfa, .ref mqu, .ref mmo, .ref mwy, .ref mwn, .ref mma, .ref mwi, .ref mnu, .ref mmv])), (mwo, .inl (c_wo, 1875, .inl w_wo)), (mlu, .inl (c_lu, 20000, .inl w_lu)), (mfg, .inl (c_fg, 12, .inl w_fg))]) [0, 1, 2, 3] rfl
      have hD9 := hD.sub (ws' := [(o0, .inr (8, [.int x_th, .ref mwo, .ref mim, .ref mhi, .ref mlu, .ref mtp, .int x_td, .ref mfv, .int x_sz, .int x_at, .int x_fr, .int x_to, .int x_va, .int x_fk, .int x_fp, .ref mfr, .ref mwt, .int x_wt, .int x_op, .int x_jo, .ref mfg, .ref mpl, .long x_dr, .ref mtm, .ref mfa, .ref mqu, .ref mmo, .ref mwy, .ref mwn, .ref mma, .ref mwi, .ref mnu, .ref mmv])), (mwo, .inl (c_wo, 1875, .inl w_wo)), (mlu, .inl (c_lu, 20000, .inl w_lu)), (mfg, .inl (c_fg, 12, .inl w_fg))]) [0, 1, 2, 3] (by decide) rfl
      have hK9 := hK.sub (tys' := [(c_wo, .int), (c_lu, .int), (c_fg, .int)]) [0, 1, 2] rfl
      exact W.iret (v := (-2)) hx hb hr (fun t ht hW => ⟨⟨(-2), (), rfl, trivial, w_fg, ha_mfg, by rw [ht]; exact hP9, va_K.moved hW.alike hK9, hD9⟩, hS.F ht⟩) hS.2.2 dX10_have_14
theorem dX10_figuresAt_0 : decode cX10_figuresAt 0 = .ok (.iconst 0, 1) := by decide +kernel
theorem dX10_figuresAt_1 : decode cX10_figuresAt 1 = .ok (.istore 4, 2) := by decide +kernel
theorem dX10_figuresAt_3 : decode cX10_figuresAt 3 = .ok (.iconst 0, 1) := by decide +kernel
theorem dX10_figuresAt_4 : decode cX10_figuresAt 4 = .ok (.istore 5, 2) := by decide +kernel
theorem dX10_figuresAt_6 : decode cX10_figuresAt 6 = .ok (.iload 5, 2) := by decide +kernel
theorem dX10_figuresAt_8 : decode cX10_figuresAt 8 = .ok (.aload_n 0, 1) := by decide +kernel
theorem dX10_figuresAt_9 : decode cX10_figuresAt 9 = .ok (.getfield 9, 3) := by decide +kernel
theorem dX10_figuresAt_12 : decode cX10_figuresAt 12 = .ok (.iconst 2, 1) := by decide +kernel
theorem dX10_figuresAt_13 : decode cX10_figuresAt 13 = .ok (.iaload, 1) := by decide +kernel
theorem dX10_figuresAt_14 : decode cX10_figuresAt 14 = .ok (.if_icmp .ge 48, 3) := by decide +kernel
theorem dX10_figuresAt_17 : decode cX10_figuresAt 17 = .ok (.aload_n 0, 1) := by decide +kernel
theorem dX10_figuresAt_18 : decode cX10_figuresAt 18 = .ok (.iload_n 1, 1) := by decide +kernel
theorem dX10_figuresAt_19 : decode cX10_figuresAt 19 = .ok (.iload 5, 2) := by decide +kernel
theorem dX10_figuresAt_21 : decode cX10_figuresAt 21 = .ok (.invokevirtual 316, 3) := by decide +kernel
theorem dX10_figuresAt_24 : decode cX10_figuresAt 24 = .ok (.ifCond .ne 6, 3) := by decide +kernel
theorem dX10_figuresAt_27 : decode cX10_figuresAt 27 = .ok (.goto 29, 3) := by decide +kernel
theorem dX10_figuresAt_30 : decode cX10_figuresAt 30 = .ok (.aload_n 0, 1) := by decide +kernel
theorem dX10_figuresAt_31 : decode cX10_figuresAt 31 = .ok (.iload 5, 2) := by decide +kernel
theorem dX10_figuresAt_33 : decode cX10_figuresAt 33 = .ok (.invokevirtual 302, 3) := by decide +kernel
theorem dX10_figuresAt_36 : decode cX10_figuresAt 36 = .ok (.iload 4, 2) := by decide +kernel
theorem dX10_figuresAt_38 : decode cX10_figuresAt 38 = .ok (.aload_n 0, 1) := by decide +kernel
theorem dX10_figuresAt_39 : decode cX10_figuresAt 39 = .ok (.getfield 40, 3) := by decide +kernel
theorem dX10_figuresAt_42 : decode cX10_figuresAt 42 = .ok (.iload_n 2, 1) := by decide +kernel
theorem dX10_figuresAt_43 : decode cX10_figuresAt 43 = .ok (.iaload, 1) := by decide +kernel
theorem dX10_figuresAt_44 : decode cX10_figuresAt 44 = .ok (.iload_n 3, 1) := by decide +kernel
theorem dX10_figuresAt_45 : decode cX10_figuresAt 45 = .ok (.if_icmp .ne 7, 3) := by decide +kernel
theorem dX10_figuresAt_48 : decode cX10_figuresAt 48 = .ok (.iconst 1, 1) := by decide +kernel
theorem dX10_figuresAt_49 : decode cX10_figuresAt 49 = .ok (.goto 4, 3) := by decide +kernel
theorem dX10_figuresAt_52 : decode cX10_figuresAt 52 = .ok (.iconst 0, 1) := by decide +kernel
theorem dX10_figuresAt_53 : decode cX10_figuresAt 53 = .ok (.iadd, 1) := by decide +kernel
theorem dX10_figuresAt_54 : decode cX10_figuresAt 54 = .ok (.istore 4, 2) := by decide +kernel
theorem dX10_figuresAt_56 : decode cX10_figuresAt 56 = .ok (.iinc 5 1, 3) := by decide +kernel
theorem dX10_figuresAt_59 : decode cX10_figuresAt 59 = .ok (.goto (-53), 3) := by decide +kernel
theorem dX10_figuresAt_62 : decode cX10_figuresAt 62 = .ok (.iload 4, 2) := by decide +kernel
theorem dX10_figuresAt_64 : decode cX10_figuresAt 64 = .ok (.ireturn, 1) := by decide +kernel
theorem hd_yX10_figuresAt : yX10_figuresAt.cls = RX10 ∧ yX10_figuresAt.cls ≠ "java/lang/invoke/MethodHandle" ∧ yX10_figuresAt.cls ≠ "java/lang/invoke/VarHandle" ∧ (parseMethodDescriptor yX10_figuresAt.desc).map (fun d => d.parameters.length) = some 3 := by decide +kernel
def uX10_figuresAt : List Cond := List.cons (.code yX10_figuresAt cX10_figuresAt 6 (some .int)) (HAppend.hAppend ([.fieldLink RX10 9 "LuckyTicketModel" "world" "[I", .methodLink RX10 316 yX10_isLucky, .instanceMethod yX10_isLucky, .selects RX10 yX10_isLucky yX10_isLucky, .initialized RX10, .methodLink RX10 302 yX10_fillFigures, .instanceMethod yX10_fillFigures, .selects RX10 yX10_fillFigures yX10_fillFigures, .fieldLink RX10 40 "LuckyTicketModel" "figures" "[I"] : List Cond) (HAppend.hAppend uX10_isLucky (HAppend.hAppend uX10_fillFigures wsX100)))
theorem iX10_figuresAt_X10 : ∀ w ∈ wsX100, w ∈ uX10_figuresAt := fun _ h => (List.mem_cons_of_mem _ (List.mem_append_right _ (List.mem_append_right _ (List.mem_append_right _ h))))
theorem guX10_figuresAt : GU uX10_figuresAt := gu_cons (gu_app (by decide +kernel) (gu_ap guX10_isLucky (gu_ap guX10_fillFigures gws_X10)))
theorem gX10_figuresAt__X10_isLucky_V316 : GoodIn uX10_figuresAt (wsV RX10 316 RX10 yX10_isLucky uX10_isLucky) := gin_V (List.mem_of_getElem? (i := 2) rfl) (List.mem_of_getElem? (i := 3) rfl) (List.mem_of_getElem? (i := 4) rfl) (List.mem_of_getElem? (i := 5) rfl) (fun _ h => (List.mem_cons_of_mem _ (List.mem_append_right _ (List.mem_append_left _ h)))) guX10_isLucky
theorem gX10_figuresAt__X10_fillFigures_V302 : GoodIn uX10_figuresAt (wsV RX10 302 RX10 yX10_fillFigures uX10_fillFigures) := gin_V (List.mem_of_getElem? (i := 6) rfl) (List.mem_of_getElem? (i := 7) rfl) (List.mem_of_getElem? (i := 8) rfl) (List.mem_of_getElem? (i := 5) rfl) (fun _ h => (List.mem_cons_of_mem _ (List.mem_append_right _ (List.mem_append_right _ (List.mem_append_left _ h))))) guX10_fillFigures
set_option maxHeartbeats 4000000 in
set_option maxRecDepth 100000 in
theorem kX10_figuresAt (l : Launch) (dC : Nat → ClassId) (dI : Nat → Nat → Nat) (o0 : Nat) (x_th : Int32) (mwo : Nat) (mim : Nat) (mhi : Nat) (mlu : Nat) (mtp : Nat) (x_td : Int32) (mfv : Nat) (x_sz : Int32) (x_at : Int32) (x_fr : Int32) (x_to : Int32) (x_va : Int32) (x_fk : Int32) (x_fp : Int32) (mfr : Nat) (mwt : Nat) (x_wt : Int32) (x_op : Int32) (x_jo : Int32) (mfg : Nat) (mpl : Nat) (x_dr : Int64) (mtm : Nat) (mfa : Nat) (mqu : Nat) (mmo : Nat) (mwy : Nat) (mwn : Nat) (mma : Nat) (mwi : Nat) (mnu : Nat) (mmv : Nat) (c_wo : ClassId) (c_lu : ClassId) (c_fg : ClassId) (w_wo : Nat → Int32) (w_lu : Nat → Int32) (w_fg : Nat → Int32) (ln : Int32) (bs : Int32) (tk : Int32) (lw : Int32) (li : Int32) (a1 : Int32) (a2 : Int32) (a3 : Int32) (sz : Nat) (b_ln : (0 : Int) ≤ ln.toInt ∧ ln.toInt ≤ 12) (b_bs : (0 : Int) ≤ bs.toInt ∧ bs.toInt ≤ 16) (b_tk : (0 : Int) ≤ tk.toInt ∧ tk.toInt ≤ 20000) (b_lw : (0 : Int) ≤ lw.toInt ∧ lw.toInt ≤ 9) (b_a2 : (0 : Int) ≤ a2.toInt ∧ a2.toInt ≤ 11) (ha_mfg : rg w_fg 12 0 15) (hw0 : w_wo 0 = ln) (hw1 : w_wo 1 = bs) (hw2 : w_wo 2 = tk) (hw3 : w_wo 3 = lw) (hw4 : w_wo 4 = li) (hwz : (ln.toInt = 0 ∧ bs.toInt = 0 ∧ tk.toInt = 0 ∧ lw.toInt = 0) ∨ (1 ≤ ln.toInt ∧ 2 ≤ bs.toInt ∧ 1 ≤ tk.toInt)) : Met l yX10_figuresAt uX10_figuresAt ({ frames := 1, cells := 0, slots := 0, locals := 23 }) (va_Pc [.ref o0, .int a1, .int a2, .int a3] (hw (dC, dI) vwCl [(o0, .inr (8, [.int x_th, .ref mwo, .ref mim, .ref mhi, .ref mlu, .ref mtp, .int x_td, .ref mfv, .int x_sz, .int x_at, .int x_fr, .int x_to, .int x_va, .int x_fk, .int x_fp, .ref mfr, .ref mwt, .int x_wt, .int x_op, .int x_jo, .ref mfg, .ref mpl, .long x_dr, .ref mtm, .ref mfa, .ref mqu, .ref mmo, .ref mwy, .ref mwn, .ref mma, .ref mwi, .ref mnu, .ref mmv])), (mwo, .inl (c_wo, 1875, .inl w_wo)), (mlu, .inl (c_lu, 20000, .inl w_lu)), (mfg, .inl (c_fg, 12, .inl w_fg))] [(c_wo, .int), (c_lu, .int), (c_fg, .int)] sz)) (va_Qi (fun (r : Int32) (_ : Unit) => True) (fun (_ : Unit) t => ∃ (o0_ : Nat → Int32), (rg o0_ 12 0 15) ∧ va_P (dC, dI) vwCl [(o0, .inr (8, [.int x_th, .ref mwo, .ref mim, .ref mhi, .ref mlu, .ref mtp, .int x_td, .ref mfv, .int x_sz, .int x_at, .int x_fr, .int x_to, .int x_va, .int x_fk, .int x_fp, .ref mfr, .ref mwt, .int x_wt, .int x_op, .int x_jo, .ref mfg, .ref mpl, .long x_dr, .ref mtm, .ref mfa, .ref mqu, .ref mmo, .ref mwy, .ref mwn, .ref mma, .ref mwi, .ref mnu, .ref mmv])), (mwo, .inl (c_wo, 1875, .inl w_wo)), (mlu, .inl (c_lu, 20000, .inl w_lu)), (mfg, .inl (c_fg, 12, .inl o0_))] t.heap ∧ va_K (dC, dI) vwCl [(c_wo, .int), (c_lu, .int), (c_fg, .int)] t ∧ va_D (va_A [(o0, .inr (8, [.int x_th, .ref mwo, .ref mim, .ref mhi, .ref mlu, .ref mtp, .int x_td, .ref mfv, .int x_sz, .int x_at, .int x_fr, .int x_to, .int x_va, .int x_fk, .int x_fp, .ref mfr, .ref mwt, .int x_wt, .int x_op, .int x_jo, .ref mfg, .ref mpl, .long x_dr, .ref mtm, .ref mfa, .ref mqu, .ref mmo, .ref mwy, .ref mwn, .ref mma, .ref mwi, .ref mnu, .ref mmv])), (mwo, .inl (c_wo, 1875, .inl w_wo)), (mlu, .inl (c_lu, 20000, .inl w_lu)), (mfg, .inl (c_fg, 12, .inl w_fg))] sz) [(o0, .inr (8, [.int x_th, .ref mwo, .ref mim, .ref mhi, .ref mlu, .ref mtp, .int x_td, .ref mfv, .int x_sz, .int x_at, .int x_fr, .int x_to, .int x_va, .int x_fk, .int x_fp, .ref mfr, .ref mwt, .int x_wt, .int x_op, .int x_jo, .ref mfg, .ref mpl, .long x_dr, .ref mtm, .ref mfa, .ref mqu, .ref mmo, .ref mwy, .ref mwn, .ref mma, .ref mwi, .ref mnu, .ref mmv])), (mwo, .inl (c_wo, 1875, .inl w_wo)), (mlu, .inl (c_lu, 20000, .inl w_lu)), (mfg, .inl (c_fg, 12, .inl o0_))]) (va_A [(o0, .inr (8, [.int x_th, .ref mwo, .ref mim, .ref mhi, .ref mlu, .ref mtp, .int x_td, .ref mfv, .int x_sz, .int x_at, .int x_fr, .int x_to, .int x_va, .int x_fk, .int x_fp, .ref mfr, .ref mwt, .int x_wt, .int x_op, .int x_jo, .ref mfg, .ref mpl, .long x_dr, .ref mtm, .ref mfa, .ref mqu, .ref mmo, .ref mwy, .ref mwn, .ref mma, .ref mwi, .ref mnu, .ref mmv])), (mwo, .inl (c_wo, 1875, .inl w_wo)), (mlu, .inl (c_lu, 20000, .inl w_lu)), (mfg, .inl (c_fg, 12, .inl w_fg))] sz)) 0 0 (va_A [(o0, .inr (8, [.int x_th, .ref mwo, .ref mim, .ref mhi, .ref mlu, .ref mtp, .int x_td, .ref mfv, .int x_sz, .int x_at, .int x_fr, .int x_to, .int x_va, .int x_fk, .int x_fp, .ref mfr, .ref mwt, .int x_wt, .int x_op, .int x_jo, .ref mfg, .ref mpl, .long x_dr, .ref mtm, .ref mfa, .ref mqu, .ref mmo, .ref mwy, .ref mwn, .ref mma, .ref mwi, .ref mnu, .ref mmv])), (mwo, .inl (c_wo, 1875, .inl w_wo)), (mlu, .inl (c_lu, 20000, .inl w_lu)), (mfg, .inl (c_fg, 12, .inl w_fg))] sz) := by
  refine Met.ofW (cc := cX10_figuresAt) (maxL := 6) (ret := (some .int)) pn_X10 rfl ?_
  intro p e s m args below meth c s₁ B hml hv
  obtain ⟨rfl, hsz, hP, hK, hD0, hN⟩ := hv
  have hx := B.exec
  have hb := B.bytes
  have hr := B.returns
  have hts := atoms_spec (ws := uX10_figuresAt) B.pre
  have hown : s.vm.findClass RX10 = some m.cls := hown_of B.named rfl
  have hlocks := B.notSynchronized
  subst hsz
  have hD := hD0.self (sz := s.heap.size)
  generalize hAe : va_A [(o0, .inr (8, [.int x_th, .ref mwo, .ref mim, .ref mhi, .ref mlu, .ref mtp, .int x_td, .ref mfv, .int x_sz, .int x_at, .int x_fr, .int x_to, .int x_va, .int x_fk, .int x_fp, .ref mfr, .ref mwt, .int x_wt, .int x_op, .int x_jo, .ref mfg, .ref mpl, .long x_dr, .ref mtm, .ref mfa, .ref mqu, .ref mmo, .ref mwy, .ref mwn, .ref mma, .ref mwi, .ref mnu, .ref mmv])), (mwo, .inl (c_wo, 1875, .inl w_wo)), (mlu, .inl (c_lu, 20000, .inl w_lu)), (mfg, .inl (c_fg, 12, .inl w_fg))] s.heap.size = A at hD ⊢
  have hA : ∀ q : Nat, s.heap.size ≤ q → A q := fun q h => by rw [← hAe]; exact Or.inr h
  have hS : va_S A s.heap s.heap [] := va_S.rf
  have hP : va_P (dC, dI) vwCl [(o0, .inr (8, [.int x_th, .ref mwo, .ref mim, .ref mhi, .ref mlu, .ref mtp, .int x_td, .ref mfv, .int x_sz, .int x_at, .int x_fr, .int x_to, .int x_va, .int x_fk, .int x_fp, .ref mfr, .ref mwt, .int x_wt, .int x_op, .int x_jo, .ref mfg, .ref mpl, .long x_dr, .ref mtm, .ref mfa, .ref mqu, .ref mmo, .ref mwy, .ref mwn, .ref mma, .ref mwi, .ref mnu, .ref mmv])), (mwo, .inl (c_wo, 1875, .inl w_wo)), (mlu, .inl (c_lu, 20000, .inl w_lu)), (mfg, .inl (c_fg, 12, .inl w_fg))] s.heap := hP
  have hl := lv_entry ([.ref o0, .int a1, .int a2, .int a3]) (n := 6) (Nat.le_of_ble_eq_true rfl)
  rw [lg_entry_eq]
  generalize (lg_sl ([.ref o0, .int a1, .int a2, .int a3]) ++ List.replicate (6 - (lg_sl ([.ref o0, .int a1, .int a2, .int a3])).length) Slot.unset).toArray = ls at hl ⊢
  have hl : lv_has ls 6 [(0, .ref o0), (1, .int a1), (2, .int a2), (3, .int a3)] := hl
  refine lv_iconst (v := 0) hx hb dX10_figuresAt_0 (by decide) ?_
  refine lv_istore (lv' := [(4, .int 0), (0, .ref o0), (1, .int a1), (2, .int a2), (3, .int a3)]) hx hb dX10_figuresAt_1 hl (by decide) rfl (fun ls hl => ?_)
  refine lv_iconst (v := 0) hx hb dX10_figuresAt_3 (by decide) ?_
  refine lv_istore (lv' := [(5, .int 0), (4, .int 0), (0, .ref o0), (1, .int a1), (2, .int a2), (3, .int a3)]) hx hb dX10_figuresAt_4 hl (by decide) rfl (fun ls hl => ?_)
  refine loopW (σ := Int32 × Int32 × (Nat → Int32)) (fun v => (20000 - v.1.toInt).toNat) (fun v H locs ls => ((0 : Int) ≤ v.1.toInt ∧ v.1.toInt ≤ 20000) ∧ (rg v.2.2 12 0 15) ∧ va_P (dC, dI) vwCl [(o0, .inr (8, [.int x_th, .ref mwo, .ref mim, .ref mhi, .ref mlu, .ref mtp, .int x_td, .ref mfv, .int x_sz, .int x_at, .int x_fr, .int x_to, .int x_va, .int x_fk, .int x_fp, .ref mfr, .ref mwt, .int x_wt, .int x_op, .int x_jo, .ref mfg, .ref mpl, .long x_dr, .ref mtm, .ref mfa, .ref mqu, .ref mmo, .ref mwy, .ref mwn, .ref mma, .ref mwi, .ref mnu, .ref mmv])), (mwo, .inl (c_wo, 1875, .inl w_wo)), (mlu, .inl (c_lu, 20000, .inl w_lu)), (mfg, .inl (c_fg, 12, .inl v.2.2))] H ∧ va_D A [(o0, .inr (8, [.int x_th, .ref mwo, .ref mim, .ref mhi, .ref mlu, .ref mtp, .int x_td, .ref mfv, .int x_sz, .int x_at, .int x_fr, .int x_to, .int x_va, .int x_fk, .int x_fp, .ref mfr, .ref mwt, .int x_wt, .int x_op, .int x_jo, .ref mfg, .ref mpl, .long x_dr, .ref mtm, .ref mfa, .ref mqu, .ref mmo, .ref mwy, .ref mwn, .ref mma, .ref mwi, .ref mnu, .ref mmv])), (mwo, .inl (c_wo, 1875, .inl w_wo)), (mlu, .inl (c_lu, 20000, .inl w_lu)), (mfg, .inl (c_fg, 12, .inl v.2.2))] ∧ va_S A s.heap H locs ∧ lv_has ls 6 [(5, .int v.1), (4, .int v.2.1), (0, .ref o0), (1, .int a1), (2, .int a2), (3, .int a3)]) (fun v H locs ls hI ih_6_765 => ?_) ((0 : Int32), (0 : Int32), w_fg) ⟨(show (0 : Int) ≤ (0 : Int32).toInt ∧ (0 : Int32).toInt ≤ 20000 from (rg_w (by decide : (0 : Int) ≤ (0 : Int32).toInt ∧ (0 : Int32).toInt ≤ 0) (by decide) (by decide))), (show rg w_fg 12 0 15 from ha_mfg), hP, hD, hS, lv_sub hl [0, 1, 2, 3, 4, 5] rfl⟩
  obtain ⟨y_418, y_419, f_420⟩ := v
  obtain ⟨b_y_418, ha_f_420, hP, hD, hS, hl⟩ := hI
  have b_y_418 : (0 : Int) ≤ y_418.toInt ∧ y_418.toInt ≤ 20000 := b_y_418
  have ha_f_420 : rg f_420 12 0 15 := ha_f_420
  have hP : va_P (dC, dI) vwCl [(o0, .inr (8, [.int x_th, .ref mwo, .ref mim, .ref mhi, .ref mlu, .ref mtp, .int x_td, .ref mfv, .int x_sz, .int x_at, .int x_fr, .int x_to, .int x_va, .int x_fk, .int x_fp, .ref mfr, .ref mwt, .int x_wt, .int x_op, .int x_jo, .ref mfg, .ref mpl, .long x_dr, .ref mtm, .ref mfa, .ref mqu, .ref mmo, .ref mwy, .ref mwn, .ref mma, .ref mwi, .ref mnu, .ref mmv])), (mwo, .inl (c_wo, 1875, .inl w_wo)), (mlu, .inl (c_lu, 20000, .inl w_lu)), (mfg, .inl (c_fg, 12, .inl f_420))] H := hP
  have hD : va_D A [(o0, .inr (8, [.int x_th, .ref mwo, .ref mim, .ref mhi, .ref mlu, .ref mtp, .int x_td, .ref mfv, .int x_sz, .int x_at, .int x_fr, .int x_to, .int x_va, .int x_fk, .int x_fp, .ref mfr, .ref mwt, .int x_wt, .int x_op, .int x_jo, .ref mfg, .ref mpl, .long x_dr, .ref mtm, .ref mfa, .ref mqu, .ref mmo, .ref mwy, .ref mwn, .ref mma, .ref mwi, .ref mnu, .ref mmv])), (mwo, .inl (c_wo, 1875, .inl w_wo)), (mlu, .inl (c_lu, 20000, .inl w_lu)), (mfg, .inl (c_fg, 12, .inl f_420))] := hD
  have hl : lv_has ls 6 [(5, .int y_418), (4, .int y_419), (0, .ref o0), (1, .int a1), (2, .int a2), (3, .int a3)] := hl
  refine lv_iload hx hb dX10_figuresAt_6 (lv_at hl 0 rfl) ?_
  refine lv_aload_n hx hb dX10_figuresAt_8 rfl (lv_at hl 2 rfl) ?_
  refine va_get (D := (dC, dI)) (ci := 8) (v := .ref mwo) (C := RX10) (T := TX10) (N := 33) hx hb hts iX10_figuresAt_X10 hown hK hP 0 rfl rfl 1 (by decide) (hts (.fieldLink RX10 9 "LuckyTicketModel" "world" "[I") (List.mem_of_getElem? (i := 1) rfl)) (fun _ h9 => h9) rfl dX10_figuresAt_9 ?_
  refine lv_iconst (v := 2) hx hb dX10_figuresAt_12 (by decide) ?_
  refine va_iald hx hb hK hP 1 0 rfl rfl (vp_in_b (by decide : (2 : Int) ≤ (2 : Int32).toInt ∧ (2 : Int32).toInt ≤ 2) (by decide) (by decide)) dX10_figuresAt_13 ?_
  refine lv_topi (fun z_766 e_z_766 => ?_)
  obtain rfl : tk = z_766 := (e_z_766.trans hw2).symm
  refine lv_icmp_ge (tgt := 62) hx hb dX10_figuresAt_14 (by decide) (fun c_767 => ?_) (fun c_767 => ?_)
  ·
    have n_c_767 : (tk.toInt : Int) ≤ y_418.toInt := c_ge rfl rfl c_767
    refine lv_iload hx hb dX10_figuresAt_62 (lv_at hl 1 rfl) ?_
    have hP9 := hP.sub (ws' := [(o0, .inr (8, [.int x_th, .ref mwo, .ref mim, .ref mhi, .ref mlu, .ref mtp, .int x_td, .ref mfv, .int x_sz, .int x_at, .int x_fr, .int x_to, .int x_va, .int x_fk, .int x_fp, .ref mfr, .ref mwt, .int x_wt, .int x_op, .int x_jo, .ref mfg, .ref mpl, .long x_dr, .ref mtm, .ref mfa, .ref mqu, .ref mmo, .ref mwy, .ref mwn, .ref mma, .ref mwi, .ref mnu, .ref mmv])), (mwo, .inl (c_wo, 1875, .inl w_wo)), (mlu, .inl (c_lu, 20000, .inl w_lu)), (mfg, .inl (c_fg, 12, .inl f_420))]) [0, 1, 2, 3] rfl
    have hD9 := hD.sub (ws' := [(o0, .inr (8, [.int x_th, .ref mwo, .ref mim, .ref mhi, .ref mlu, .ref mtp, .int x_td, .ref mfv, .int x_sz, .int x_at, .int x_fr, .int x_to, .int x_va, .int x_fk, .int x_fp, .ref mfr, .ref mwt, .int x_wt, .int x_op, .int x_jo, .ref mfg, .ref mpl, .long x_dr, .ref mtm, .ref mfa, .ref mqu, .ref mmo, .ref mwy, .ref mwn, .ref mma, .ref mwi, .ref mnu, .ref mmv])), (mwo, .inl (c_wo, 1875, .inl w_wo)), (mlu, .inl (c_lu, 20000, .inl w_lu)), (mfg, .inl (c_fg, 12, .inl f_420))]) [0, 1, 2, 3] (by decide) rfl
    have hK9 := hK.sub (tys' := [(c_wo, .int), (c_lu, .int), (c_fg, .int)]) [0, 1, 2] rfl
    exact W.iret (v := y_419) hx hb hr (fun t ht hW => ⟨⟨y_419, (), rfl, trivial, f_420, ha_f_420, by rw [ht]; exact hP9, va_K.moved hW.alike hK9, hD9⟩, hS.F ht⟩) hS.2.2 dX10_figuresAt_64
  ·
    have n_c_767 : (y_418.toInt : Int) < tk.toInt := c_nge rfl rfl c_767
    have b_y_418 : (0 : Int) ≤ y_418.toInt ∧ y_418.toInt ≤ 19999 := r_lt1 b_y_418 b_tk n_c_767 (by decide)
    have b_tk : (1 : Int) ≤ tk.toInt ∧ tk.toInt ≤ 20000 := r_lt2 b_y_418 b_tk n_c_767 (by decide)
    refine lv_aload_n hx hb dX10_figuresAt_17 rfl (lv_at hl 2 rfl) ?_
    refine lv_iload_n hx hb dX10_figuresAt_18 rfl (lv_at hl 3 rfl) ?_
    refine lv_iload hx hb dX10_figuresAt_19 (lv_at hl 0 rfl) ?_
    refine vp_callSi (W.runV (As := [.int a1, .int y_418]) (rest := []) ⟨hx, hb, hml, hown, hts⟩ (kX10_isLucky l dC dI o0 x_th mwo mim mhi mlu mtp x_td mfv x_sz x_at x_fr x_to x_va x_fk x_fp mfr mwt x_wt x_op x_jo mfg mpl x_dr mtm mfa mqu mmo mwy mwn mma mwi mnu mmv c_wo c_lu w_wo w_lu ln bs tk lw li a1 y_418 b_ln b_bs (rg_w b_tk (by decide) (by decide)) b_lw b_y_418 (hw0) (hw1) (hw2) (hw3) (hw4) (hwz)) (cwV 2 hts gX10_figuresAt__X10_isLucky_V316 rfl rfl rfl hd_yX10_isLucky ⟨lel 1 1 rfl, lel 22 23 rfl⟩) ⟨pw_fb, rcv_X10 hK hP (q0 := 0) rfl, (pw_use hP hK hN [0, 1, 2] rfl [0, 1] rfl)⟩ rfl rfl hl.1 rfl (lv_room (Nat.le_of_ble_eq_true rfl)) dX10_figuresAt_21 ⟨lel 0 0 rfl, lel 0 0 rfl⟩) (fun r_768 h_r_768 => ?_)
    have b_r_768 := h_r_768
    have b_r_768 : (0 : Int) ≤ r_768.toInt ∧ r_768.toInt ≤ 1 := b_r_768
    refine cutW (σ := Int32 × (Nat → Int32)) (pc2 := 56) (st2 := fun v => []) (cells2 := 0) (slots2 := 0) (fun v H locs ls => (rg v.2 12 0 15) ∧ va_P (dC, dI) vwCl [(o0, .inr (8, [.int x_th, .ref mwo, .ref mim, .ref mhi, .ref mlu, .ref mtp, .int x_td, .ref mfv, .int x_sz, .int x_at, .int x_fr, .int x_to, .int x_va, .int x_fk, .int x_fp, .ref mfr, .ref mwt, .int x_wt, .int x_op, .int x_jo, .ref mfg, .ref mpl, .long x_dr, .ref mtm, .ref mfa, .ref mqu, .ref mmo, .ref mwy, .ref mwn, .ref mma, .ref mwi, .ref mnu, .ref mmv])), (mwo, .inl (c_wo, 1875, .inl w_wo)), (mlu, .inl (c_lu, 20000, .inl w_lu)), (mfg, .inl (c_fg, 12, .inl v.2))] H ∧ va_D A [(o0, .inr (8, [.int x_th, .ref mwo, .ref mim, .ref mhi, .ref mlu, .ref mtp, .int x_td, .ref mfv, .int x_sz, .int x_at, .int x_fr, .int x_to, .int x_va, .int x_fk, .int x_fp, .ref mfr, .ref mwt, .int x_wt, .int x_op, .int x_jo, .ref mfg, .ref mpl, .long x_dr, .ref mtm, .ref mfa, .ref mqu, .ref mmo, .ref mwy, .ref mwn, .ref mma, .ref mwi, .ref mnu, .ref mmv])), (mwo, .inl (c_wo, 1875, .inl w_wo)), (mlu, .inl (c_lu, 20000, .inl w_lu)), (mfg, .inl (c_fg, 12, .inl v.2))] ∧ va_S A s.heap H locs ∧ lv_has ls 6 [(4, .int v.1), (5, .int y_418), (0, .ref o0), (1, .int a1), (2, .int a2), (3, .int a3)]) (fun v H locs ls hI => ?_) (fun hj_56_779 => ?_)
    ·
      obtain ⟨y_778, f_779⟩ := v
      obtain ⟨ha_f_779, hP, hD, hS, hl⟩ := hI
      have ha_f_779 : rg f_779 12 0 15 := ha_f_779
      have hP : va_P (dC, dI) vwCl [(o0, .inr (8, [.int x_th, .ref mwo, .ref mim, .ref mhi, .ref mlu, .ref mtp, .int x_td, .ref mfv, .int x_sz, .int x_at, .int x_fr, .int x_to, .int x_va, .int x_fk, .int x_fp, .ref mfr, .ref mwt, .int x_wt, .int x_op, .int x_jo, .ref mfg, .ref mpl, .long x_dr, .ref mtm, .ref mfa, .ref mqu, .ref mmo, .ref mwy, .ref mwn, .ref mma, .ref mwi, .ref mnu, .ref mmv])), (mwo, .inl (c_wo, 1875, .inl w_wo)), (mlu, .inl (c_lu, 20000, .inl w_lu)), (mfg, .inl (c_fg, 12, .inl f_779))] H := hP
      have hD : va_D A [(o0, .inr (8, [.int x_th, .ref mwo, .ref mim, .ref mhi, .ref mlu, .ref mtp, .int x_td, .ref mfv, .int x_sz, .int x_at, .int x_fr, .int x_to, .int x_va, .int x_fk, .int x_fp, .ref mfr, .ref mwt, .int x_wt, .int x_op, .int x_jo, .ref mfg, .ref mpl, .long x_dr, .ref mtm, .ref mfa, .ref mqu, .ref mmo, .ref mwy, .ref mwn, .ref mma, .ref mwi, .ref mnu, .ref mmv])), (mwo, .inl (c_wo, 1875, .inl w_wo)), (mlu, .inl (c_lu, 20000, .inl w_lu)), (mfg, .inl (c_fg, 12, .inl f_779))] := hD
      have hl : lv_has ls 6 [(4, .int y_778), (5, .int y_418), (0, .ref o0), (1, .int a1), (2, .int a2), (3, .int a3)] := hl
      obtain ⟨z_780, e_z_780⟩ : ∃ y : Int32, y = y_418 + 1 := ⟨_, rfl⟩
      refine lv_iinc (v := z_780) (lv' := [(5, .int z_780), (4, .int y_778), (0, .ref o0), (1, .int a1), (2, .int a2), (3, .int a3)]) hx hb dX10_figuresAt_56 hl (k := 1) rfl (by rw [e_z_780]; rfl) (by decide) rfl (fun ls hl => ?_)
      obtain ⟨q_z_780, b_z_780⟩ := ti_add (lo := 1) (hi := 20000) e_z_780 rfl (by decide : (1 : Int32).toInt = 1) b_y_418 (by decide : (1 : Int) ≤ (1 : Int32).toInt ∧ (1 : Int32).toInt ≤ 1) (by decide)
      refine lv_goto (tgt := 6) hx hb dX10_figuresAt_59 (by decide) ?_
      exact ih_6_765 (z_780, y_778, f_779) _ _ _ ⟨(show (0 : Int) ≤ z_780.toInt ∧ z_780.toInt ≤ 20000 from (rg_w b_z_780 (by decide) (by decide))), (show rg f_779 12 0 15 from ha_f_779), hP, hD, hS, lv_sub hl [0, 1, 2, 3, 4, 5] rfl⟩ (show (20000 - z_780.toInt).toNat < (20000 - y_418.toInt).toNat by omega)
    ·
      refine lv_if_ne (tgt := 30) hx hb dX10_figuresAt_24 (by decide) (fun c_769 => ?_) (fun c_769 => ?_)
      ·
        have n_c_769 : (r_768.toInt : Int) ≠ 0 := c_ne rfl (by decide) c_769
        have b_r_768 : (1 : Int) ≤ r_768.toInt ∧ r_768.toInt ≤ 1 := r_ne1 b_r_768 (by decide : (0 : Int) ≤ (0 : Int32).toInt ∧ (0 : Int32).toInt ≤ 0) n_c_769 (by decide)
        refine lv_aload_n hx hb dX10_figuresAt_30 rfl (lv_at hl 2 rfl) ?_
        refine lv_iload hx hb dX10_figuresAt_31 (lv_at hl 0 rfl) ?_
        have hFc := va_free (wc := [(o0, .inr (8, [.int x_th, .ref mwo, .ref mim, .ref mhi, .ref mlu, .ref mtp, .int x_td, .ref mfv, .int x_sz, .int x_at, .int x_fr, .int x_to, .int x_va, .int x_fk, .int x_fp, .ref mfr, .ref mwt, .int x_wt, .int x_op, .int x_jo, .ref mfg, .ref mpl, .long x_dr, .ref mtm, .ref mfa, .ref mqu, .ref mmo, .ref mwy, .ref mwn, .ref mma, .ref mwi, .ref mnu, .ref mmv])), (mwo, .inl (c_wo, 1875, .inl w_wo)), (mfg, .inl (c_fg, 12, .inl f_420))]) hD hS hA [0, 1, 3] rfl
        refine va_callv (va_runV (As := [.int y_418]) (rest := []) ⟨hx, hb, hml, hown, hts⟩ (kX10_fillFigures l dC dI o0 x_th mwo mim mhi mlu mtp x_td mfv x_sz x_at x_fr x_to x_va x_fk x_fp mfr mwt x_wt x_op x_jo mfg mpl x_dr mtm mfa mqu mmo mwy mwn mma mwi mnu mmv c_wo c_fg w_wo f_420 ln bs tk lw li y_418 (H.size) b_ln b_bs (rg_w b_tk (by decide) (by decide)) b_lw b_y_418 ha_f_420 (hw0) (hw1) (hw2) (hw3) (hw4) (hwz)) (cwV 1 hts gX10_figuresAt__X10_fillFigures_V302 rfl rfl rfl hd_yX10_fillFigures ⟨lel 1 1 rfl, lel 23 23 rfl⟩) ⟨hw_fb, rcv_X10 hK hP (q0 := 0) rfl, (hw_use hP hD hK hN [0, 1, 3] rfl (by decide) rfl [0, 2] rfl)⟩ rfl rfl hl.1 rfl (lv_room (Nat.le_of_ble_eq_true rfl)) dX10_figuresAt_33 ⟨lel 0 0 rfl, lel 0 0 rfl⟩) hS (fun q _ h => hFc q h) hFc (fun u_782 t H1 locs ht hvm hw_r_781 hB hz1 hk1 hS => ?_)
        obtain ⟨o0_783, ha_784, hP1, hK1, hD1⟩ := hB
        rw [ht] at hP1
        have hK1 := va_K.moved hvm.symm hK1
        obtain ⟨hP, hD⟩ := va_join (wr := [(mlu, .inl (c_lu, 20000, .inl w_lu))]) (w1 := [(o0, .inr (8, [.int x_th, .ref mwo, .ref mim, .ref mhi, .ref mlu, .ref mtp, .int x_td, .ref mfv, .int x_sz, .int x_at, .int x_fr, .int x_to, .int x_va, .int x_fk, .int x_fp, .ref mfr, .ref mwt, .int x_wt, .int x_op, .int x_jo, .ref mfg, .ref mpl, .long x_dr, .ref mtm, .ref mfa, .ref mqu, .ref mmo, .ref mwy, .ref mwn, .ref mma, .ref mwi, .ref mnu, .ref mmv])), (mwo, .inl (c_wo, 1875, .inl w_wo)), (mfg, .inl (c_fg, 12, .inl o0_783))]) hP hD [0, 1, 3] [2] rfl rfl (by decide) (by decide) hk1 hFc hP1 hD1
        have hK := (hK.sub (tys' := [(c_lu, .int)]) [1] rfl).app hK1
        generalize H1 = H at hP hS ⊢
        have hP := hP.sub (ws' := [(o0, .inr (8, [.int x_th, .ref mwo, .ref mim, .ref mhi, .ref mlu, .ref mtp, .int x_td, .ref mfv, .int x_sz, .int x_at, .int x_fr, .int x_to, .int x_va, .int x_fk, .int x_fp, .ref mfr, .ref mwt, .int x_wt, .int x_op, .int x_jo, .ref mfg, .ref mpl, .long x_dr, .ref mtm, .ref mfa, .ref mqu, .ref mmo, .ref mwy, .ref mwn, .ref mma, .ref mwi, .ref mnu, .ref mmv])), (mwo, .inl (c_wo, 1875, .inl w_wo)), (mlu, .inl (c_lu, 20000, .inl w_lu)), (mfg, .inl (c_fg, 12, .inl o0_783))]) [1, 2, 0, 3] rfl
        have hD := hD.sub (ws' := [(o0, .inr (8, [.int x_th, .ref mwo, .ref mim, .ref mhi, .ref mlu, .ref mtp, .int x_td, .ref mfv, .int x_sz, .int x_at, .int x_fr, .int x_to, .int x_va, .int x_fk, .int x_fp, .ref mfr, .ref mwt, .int x_wt, .int x_op, .int x_jo, .ref mfg, .ref mpl, .long x_dr, .ref mtm, .ref mfa, .ref mqu, .ref mmo, .ref mwy, .ref mwn, .ref mma, .ref mwi, .ref mnu, .ref mmv])), (mwo, .inl (c_wo, 1875, .inl w_wo)), (mlu, .inl (c_lu, 20000, .inl w_lu)), (mfg, .inl (c_fg, 12, .inl o0_783))]) [1, 2, 0, 3] (by decide) rfl
        have hK := hK.sub (tys' := [(c_wo, .int), (c_lu, .int), (c_fg, .int)]) [1, 0, 2] rfl
        have hP : va_P (dC, dI) vwCl [(o0, .inr (8, [.int x_th, .ref mwo, .ref mim, .ref mhi, .ref mlu, .ref mtp, .int x_td, .ref mfv, .int x_sz, .int x_at, .int x_fr, .int x_to, .int x_va, .int x_fk, .int x_fp, .ref mfr, .ref mwt, .int x_wt, .int x_op, .int x_jo, .ref mfg, .ref mpl, .long x_dr, .ref mtm, .ref mfa, .ref mqu, .ref mmo, .ref mwy, .ref mwn, .ref mma, .ref mwi, .ref mnu, .ref mmv])), (mwo, .inl (c_wo, 1875, .inl w_wo)), (mlu, .inl (c_lu, 20000, .inl w_lu)), (mfg, .inl (c_fg, 12, .inl o0_783))] H := hP
        have hD : va_D A [(o0, .inr (8, [.int x_th, .ref mwo, .ref mim, .ref mhi, .ref mlu, .ref mtp, .int x_td, .ref mfv, .int x_sz, .int x_at, .int x_fr, .int x_to, .int x_va, .int x_fk, .int x_fp, .ref mfr, .ref mwt, .int x_wt, .int x_op, .int x_jo, .ref mfg, .ref mpl, .long x_dr, .ref mtm, .ref mfa, .ref mqu, .ref mmo, .ref mwy, .ref mwn, .ref mma, .ref mwi, .ref mnu, .ref mmv])), (mwo, .inl (c_wo, 1875, .inl w_wo)), (mlu, .inl (c_lu, 20000, .inl w_lu)), (mfg, .inl (c_fg, 12, .inl o0_783))] := hD
        have hK : va_K (dC, dI) vwCl [(c_wo, .int), (c_lu, .int), (c_fg, .int)] s := hK
        refine lv_iload hx hb dX10_figuresAt_36 (lv_at hl 1 rfl) ?_
        refine lv_aload_n hx hb dX10_figuresAt_38 rfl (lv_at hl 2 rfl) ?_
        refine va_get (D := (dC, dI)) (ci := 8) (v := .ref mfg) (C := RX10) (T := TX10) (N := 33) hx hb hts iX10_figuresAt_X10 hown hK hP 0 rfl rfl 20 (by decide) (hts (.fieldLink RX10 40 "LuckyTicketModel" "figures" "[I") (List.mem_of_getElem? (i := 9) rfl)) (fun _ h9 => h9) rfl dX10_figuresAt_39 ?_
        refine lv_iload_n hx hb dX10_figuresAt_42 rfl (lv_at hl 4 rfl) ?_
        refine va_iald hx hb hK hP 3 2 rfl rfl (vp_in_b b_a2 (by decide) (by decide)) dX10_figuresAt_43 ?_
        refine lv_topi (fun z_785 e_z_785 => ?_)
        have b_z_785 : (0 : Int) ≤ z_785.toInt ∧ z_785.toInt ≤ 15 := rg_at ha_784 (vp_in_b b_a2 (by decide) (by decide)) e_z_785
        refine lv_iload_n hx hb dX10_figuresAt_44 rfl (lv_at hl 5 rfl) ?_
        refine cutW (σ := Int32) (pc2 := 53) (st2 := fun v => [.int v, .int y_419]) (cells2 := 0) (slots2 := 0) (fun v H locs ls => ((0 : Int) ≤ v.toInt ∧ v.toInt ≤ 1) ∧ va_P (dC, dI) vwCl [(o0, .inr (8, [.int x_th, .ref mwo, .ref mim, .ref mhi, .ref mlu, .ref mtp, .int x_td, .ref mfv, .int x_sz, .int x_at, .int x_fr, .int x_to, .int x_va, .int x_fk, .int x_fp, .ref mfr, .ref mwt, .int x_wt, .int x_op, .int x_jo, .ref mfg, .ref mpl, .long x_dr, .ref mtm, .ref mfa, .ref mqu, .ref mmo, .ref mwy, .ref mwn, .ref mma, .ref mwi, .ref mnu, .ref mmv])), (mwo, .inl (c_wo, 1875, .inl w_wo)), (mlu, .inl (c_lu, 20000, .inl w_lu)), (mfg, .inl (c_fg, 12, .inl o0_783))] H ∧ va_D A [(o0, .inr (8, [.int x_th, .ref mwo, .ref mim, .ref mhi, .ref mlu, .ref mtp, .int x_td, .ref mfv, .int x_sz, .int x_at, .int x_fr, .int x_to, .int x_va, .int x_fk, .int x_fp, .ref mfr, .ref mwt, .int x_wt, .int x_op, .int x_jo, .ref mfg, .ref mpl, .long x_dr, .ref mtm, .ref mfa, .ref mqu, .ref mmo, .ref mwy, .ref mwn, .ref mma, .ref mwi, .ref mnu, .ref mmv])), (mwo, .inl (c_wo, 1875, .inl w_wo)), (mlu, .inl (c_lu, 20000, .inl w_lu)), (mfg, .inl (c_fg, 12, .inl o0_783))] ∧ va_S A s.heap H locs ∧ lv_has ls 6 [(5, .int y_418), (4, .int y_419), (0, .ref o0), (1, .int a1), (2, .int a2), (3, .int a3)]) (fun v H locs ls hI => ?_) (fun hj_53_787 => ?_)
        ·
          obtain ⟨y_787, rfl⟩ : ∃ z, z = v := ⟨_, rfl⟩
          obtain ⟨b_y_787, hP, hD, hS, hl⟩ := hI
          have b_y_787 : (0 : Int) ≤ y_787.toInt ∧ y_787.toInt ≤ 1 := b_y_787
          have hP : va_P (dC, dI) vwCl [(o0, .inr (8, [.int x_th, .ref mwo, .ref mim, .ref mhi, .ref mlu, .ref mtp, .int x_td, .ref mfv, .int x_sz, .int x_at, .int x_fr, .int x_to, .int x_va, .int x_fk, .int x_fp, .ref mfr, .ref mwt, .int x_wt, .int x_op, .int x_jo, .ref mfg, .ref mpl, .long x_dr, .ref mtm, .ref mfa, .ref mqu, .ref mmo, .ref mwy, .ref mwn, .ref mma, .ref mwi, .ref mnu, .ref mmv])), (mwo, .inl (c_wo, 1875, .inl w_wo)), (mlu, .inl (c_lu, 20000, .inl w_lu)), (mfg, .inl (c_fg, 12, .inl o0_783))] H := hP
          have hD : va_D A [(o0, .inr (8, [.int x_th, .ref mwo, .ref mim, .ref mhi, .ref mlu, .ref mtp, .int x_td, .ref mfv, .int x_sz, .int x_at, .int x_fr, .int x_to, .int x_va, .int x_fk, .int x_fp, .ref mfr, .ref mwt, .int x_wt, .int x_op, .int x_jo, .ref mfg, .ref mpl, .long x_dr, .ref mtm, .ref mfa, .ref mqu, .ref mmo, .ref mwy, .ref mwn, .ref mma, .ref mwi, .ref mnu, .ref mmv])), (mwo, .inl (c_wo, 1875, .inl w_wo)), (mlu, .inl (c_lu, 20000, .inl w_lu)), (mfg, .inl (c_fg, 12, .inl o0_783))] := hD
          have hl : lv_has ls 6 [(5, .int y_418), (4, .int y_419), (0, .ref o0), (1, .int a1), (2, .int a2), (3, .int a3)] := hl
          refine lv_iadd hx hb dX10_figuresAt_53 ?_
          refine lv_topi (fun z_788 e_z_788 => ?_)
          refine lv_istore (lv' := [(4, .int z_788), (5, .int y_418), (0, .ref o0), (1, .int a1), (2, .int a2), (3, .int a3)]) hx hb dX10_figuresAt_54 hl (by decide) rfl (fun ls hl => ?_)
          exact hj_56_779 (z_788, o0_783) _ _ _ ⟨(show rg o0_783 12 0 15 from ha_784), hP, hD, hS, lv_sub hl [0, 1, 2, 3, 4, 5] rfl⟩
        ·
          refine lv_icmp_ne (tgt := 52) hx hb dX10_figuresAt_45 (by decide) (fun c_786 => ?_) (fun c_786 => ?_)
          ·
            have n_c_786 : (z_785.toInt : Int) ≠ a3.toInt := c_ne rfl rfl c_786
            refine lv_iconst (v := 0) hx hb dX10_figuresAt_52 (by decide) ?_
            exact hj_53_787 (0 : Int32) _ _ _ ⟨(show (0 : Int) ≤ (0 : Int32).toInt ∧ (0 : Int32).toInt ≤ 1 from (rg_w (by decide : (0 : Int) ≤ (0 : Int32).toInt ∧ (0 : Int32).toInt ≤ 0) (by decide) (by decide))), hP, hD, hS, lv_sub hl [0, 1, 2, 3, 4, 5] rfl⟩
          ·
            have n_c_786 : (z_785.toInt : Int) = a3.toInt := c_eq rfl rfl c_786
            have b_a3 : (0 : Int) ≤ a3.toInt ∧ a3.toInt ≤ 15 := r_eq2 b_z_785 (ti_rng a3) n_c_786 (by decide)
            refine lv_iconst (v := 1) hx hb dX10_figuresAt_48 (by decide) ?_
            refine lv_goto (tgt := 53) hx hb dX10_figuresAt_49 (by decide) ?_
            exact hj_53_787 (1 : Int32) _ _ _ ⟨(show (0 : Int) ≤ (1 : Int32).toInt ∧ (1 : Int32).toInt ≤ 1 from (rg_w (by decide : (1 : Int) ≤ (1 : Int32).toInt ∧ (1 : Int32).toInt ≤ 1) (by decide) (by decide))), hP, hD, hS, lv_sub hl [0, 1, 2, 3, 4, 5] rfl⟩
      ·
        have n_c_769 : (r_768.toInt : Int) = 0 := c_eq rfl (by decide) c_769
        have b_r_768 : (0 : Int) ≤ r_768.toInt ∧ r_768.toInt ≤ 0 := r_eq1 b_r_768 (by decide : (0 : Int) ≤ (0 : Int32).toInt ∧ (0 : Int32).toInt ≤ 0) n_c_769 (by decide)
        refine lv_goto (tgt := 56) hx hb dX10_figuresAt_27 (by decide) ?_
        exact hj_56_779 (y_419, f_420) _ _ _ ⟨(show rg f_420 12 0 15 from ha_f_420), hP, hD, hS, lv_sub hl [1, 0, 2, 3, 4, 5] rfl⟩
theorem dX10_at_0 : decode cX10_at 0 = .ok (.aload_n 0, 1) := by decide +kernel
theorem dX10_at_1 : decode cX10_at 1 = .ok (.iload_n 1, 1) := by decide +kernel
theorem dX10_at_2 : decode cX10_at 2 = .ok (.invokevirtual 89, 3) := by decide +kernel
theorem dX10_at_5 : decode cX10_at 5 = .ok (.ifCond .eq 39, 3) := by decide +kernel
theorem dX10_at_8 : decode cX10_at 8 = .ok (.aload_n 0, 1) := by decide +kernel
theorem dX10_at_9 : decode cX10_at 9 = .ok (.iload_n 2, 1) := by decide +kernel
theorem dX10_at_10 : decode cX10_at 10 = .ok (.invokevirtual 308, 3) := by decide +kernel
theorem dX10_at_13 : decode cX10_at 13 = .ok (.ifCond .eq 31, 3) := by decide +kernel
theorem dX10_at_16 : decode cX10_at 16 = .ok (.iload_n 3, 1) := by decide +kernel
theorem dX10_at_17 : decode cX10_at 17 = .ok (.i2l, 1) := by decide +kernel
theorem dX10_at_18 : decode cX10_at 18 = .ok (.lconst 0, 1) := by decide +kernel
theorem dX10_at_19 : decode cX10_at 19 = .ok (.aload_n 0, 1) := by decide +kernel
theorem dX10_at_20 : decode cX10_at 20 = .ok (.getfield 9, 3) := by decide +kernel
theorem dX10_at_23 : decode cX10_at 23 = .ok (.iconst 1, 1) := by decide +kernel
theorem dX10_at_24 : decode cX10_at 24 = .ok (.iaload, 1) := by decide +kernel
theorem dX10_at_25 : decode cX10_at 25 = .ok (.iconst 1, 1) := by decide +kernel
theorem dX10_at_26 : decode cX10_at 26 = .ok (.isub, 1) := by decide +kernel
theorem dX10_at_27 : decode cX10_at 27 = .ok (.i2l, 1) := by decide +kernel
theorem dX10_at_28 : decode cX10_at 28 = .ok (.invokestatic 82, 3) := by decide +kernel
theorem dX10_at_31 : decode cX10_at 31 = .ok (.ifCond .eq 13, 3) := by decide +kernel
theorem dX10_at_34 : decode cX10_at 34 = .ok (.aload_n 0, 1) := by decide +kernel
theorem dX10_at_35 : decode cX10_at 35 = .ok (.iload_n 1, 1) := by decide +kernel
theorem dX10_at_36 : decode cX10_at 36 = .ok (.iload_n 2, 1) := by decide +kernel
theorem dX10_at_37 : decode cX10_at 37 = .ok (.iload_n 3, 1) := by decide +kernel
theorem dX10_at_38 : decode cX10_at 38 = .ok (.invokevirtual 430, 3) := by decide +kernel
theorem dX10_at_41 : decode cX10_at 41 = .ok (.goto 5, 3) := by decide +kernel
theorem dX10_at_44 : decode cX10_at 44 = .ok (.bipush (-2), 2) := by decide +kernel
theorem dX10_at_46 : decode cX10_at 46 = .ok (.ireturn, 1) := by decide +kernel
theorem hd_yX10_at : yX10_at.cls = RX10 ∧ yX10_at.cls ≠ "java/lang/invoke/MethodHandle" ∧ yX10_at.cls ≠ "java/lang/invoke/VarHandle" ∧ (parseMethodDescriptor yX10_at.desc).map (fun d => d.parameters.length) = some 3 := by decide +kernel
def uX10_at : List Cond := List.cons (.code yX10_at cX10_at 4 (some .int)) (HAppend.hAppend ([.methodLink RX10 89 yX10_isLaw, .instanceMethod yX10_isLaw, .selects RX10 yX10_isLaw yX10_isLaw, .initialized RX10, .methodLink RX10 308 yX10_isPlace, .instanceMethod yX10_isPlace, .selects RX10 yX10_isPlace yX10_isPlace, .fieldLink RX10 9 "LuckyTicketModel" "world" "[I", .methodLink RX10 82 yX10_in, .static yX10_in, .methodLink RX10 430 yX10_figuresAt, .instanceMethod yX10_figuresAt, .selects RX10 yX10_figuresAt yX10_figuresAt] : List Cond) (HAppend.hAppend uX10_isLaw (HAppend.hAppend uX10_isPlace (HAppend.hAppend uX10_in (HAppend.hAppend uX10_figuresAt wsX100)))))
theorem iX10_at_X10 : ∀ w ∈ wsX100, w ∈ uX10_at := fun _ h => (List.mem_cons_of_mem _ (List.mem_append_right _ (List.mem_append_right _ (List.mem_append_right _ (List.mem_append_right _ (List.mem_append_right _ h))))))
theorem guX10_at : GU uX10_at := gu_cons (gu_app (by decide +kernel) (gu_ap guX10_isLaw (gu_ap guX10_isPlace (gu_ap guX10_in (gu_ap guX10_figuresAt gws_X10)))))
theorem gX10_at__X10_isLaw_V89 : GoodIn uX10_at (wsV RX10 89 RX10 yX10_isLaw uX10_isLaw) := gin_V (List.mem_of_getElem? (i := 1) rfl) (List.mem_of_getElem? (i := 2) rfl) (List.mem_of_getElem? (i := 3) rfl) (List.mem_of_getElem? (i := 4) rfl) (fun _ h => (List.mem_cons_of_mem _ (List.mem_append_right _ (List.mem_append_left _ h)))) guX10_isLaw
theorem gX10_at__X10_isPlace_V308 : GoodIn uX10_at (wsV RX10 308 RX10 yX10_isPlace uX10_isPlace) := gin_V (List.mem_of_getElem? (i := 5) rfl) (List.mem_of_getElem? (i := 6) rfl) (List.mem_of_getElem? (i := 7) rfl) (List.mem_of_getElem? (i := 4) rfl) (fun _ h => (List.mem_cons_of_mem _ (List.mem_append_right _ (List.mem_append_right _ (List.mem_append_left _ h))))) guX10_isPlace
theorem gX10_at__X10_in_S82 : GoodIn uX10_at (va_wsS RX10 82 yX10_in uX10_in) := gin_S (List.mem_of_getElem? (i := 9) rfl) (List.mem_of_getElem? (i := 10) rfl) (List.mem_of_getElem? (i := 4) rfl) (fun _ h => (List.mem_cons_of_mem _ (List.mem_append_right _ (List.mem_append_right _ (List.mem_append_right _ (List.mem_append_left _ h)))))) guX10_in
theorem gX10_at__X10_figuresAt_V430 : GoodIn uX10_at (wsV RX10 430 RX10 yX10_figuresAt uX10_figuresAt) := gin_V (List.mem_of_getElem? (i := 11) rfl) (List.mem_of_getElem? (i := 12) rfl) (List.mem_of_getElem? (i := 13) rfl) (List.mem_of_getElem? (i := 4) rfl) (fun _ h => (List.mem_cons_of_mem _ (List.mem_append_right _ (List.mem_append_right _ (List.mem_append_right _ (List.mem_append_right _ (List.mem_append_left _ h))))))) guX10_figuresAt
set_option maxHeartbeats 4000000 in
set_option maxRecDepth 100000 in
theorem kX10_at (l : Launch) (dC : Nat → ClassId) (dI : Nat → Nat → Nat) (o0 : Nat) (x_th : Int32) (mwo : Nat) (mim : Nat) (mhi : Nat) (mlu : Nat) (mtp : Nat) (x_td : Int32) (mfv : Nat) (x_sz : Int32) (x_at : Int32) (x_fr : Int32) (x_to : Int32) (x_va : Int32) (x_fk : Int32) (x_fp : Int32) (mfr : Nat) (mwt : Nat) (x_wt : Int32) (x_op : Int32) (x_jo : Int32) (mfg : Nat) (mpl : Nat) (x_dr : Int64) (mtm : Nat) (mfa : Nat) (mqu : Nat) (mmo : Nat) (mwy : Nat) (mwn : Nat) (mma : Nat) (mwi : Nat) (mnu : Nat) (mmv : Nat) (c_wo : ClassId) (c_lu : ClassId) (c_fg : ClassId) (w_wo : Nat → Int32) (w_lu : Nat → Int32) (w_fg : Nat → Int32) (ln : Int32) (bs : Int32) (tk : Int32) (lw : Int32) (li : Int32) (a1 : Int32) (a2 : Int32) (a3 : Int32) (sz : Nat) (b_ln : (0 : Int) ≤ ln.toInt ∧ ln.toInt ≤ 12) (b_bs : (0 : Int) ≤ bs.toInt ∧ bs.toInt ≤ 16) (b_tk : (0 : Int) ≤ tk.toInt ∧ tk.toInt ≤ 20000) (b_lw : (0 : Int) ≤ lw.toInt ∧ lw.toInt ≤ 9) (ha_mfg : rg w_fg 12 0 15) (hw0 : w_wo 0 = ln) (hw1 : w_wo 1 = bs) (hw2 : w_wo 2 = tk) (hw3 : w_wo 3 = lw) (hw4 : w_wo 4 = li) (hwz : (ln.toInt = 0 ∧ bs.toInt = 0 ∧ tk.toInt = 0 ∧ lw.toInt = 0) ∨ (1 ≤ ln.toInt ∧ 2 ≤ bs.toInt ∧ 1 ≤ tk.toInt)) : Met l yX10_at uX10_at ({ frames := 2, cells := 0, slots := 0, locals := 48 }) (va_Pc [.ref o0, .int a1, .int a2, .int a3] (hw (dC, dI) vwCl [(o0, .inr (8, [.int x_th, .ref mwo, .ref mim, .ref mhi, .ref mlu, .ref mtp, .int x_td, .ref mfv, .int x_sz, .int x_at, .int x_fr, .int x_to, .int x_va, .int x_fk, .int x_fp, .ref mfr, .ref mwt, .int x_wt, .int x_op, .int x_jo, .ref mfg, .ref mpl, .long x_dr, .ref mtm, .ref mfa, .ref mqu, .ref mmo, .ref mwy, .ref mwn, .ref mma, .ref mwi, .ref mnu, .ref mmv])), (mwo, .inl (c_wo, 1875, .inl w_wo)), (mlu, .inl (c_lu, 20000, .inl w_lu)), (mfg, .inl (c_fg, 12, .inl w_fg))] [(c_wo, .int), (c_lu, .int), (c_fg, .int)] sz)) (va_Qi (fun (r : Int32) (_ : Unit) => True) (fun (_ : Unit) t => ∃ (o0_ : Nat → Int32), (rg o0_ 12 0 15) ∧ va_P (dC, dI) vwCl [(o0, .inr (8, [.int x_th, .ref mwo, .ref mim, .ref mhi, .ref mlu, .ref mtp, .int x_td, .ref mfv, .int x_sz, .int x_at, .int x_fr, .int x_to, .int x_va, .int x_fk, .int x_fp, .ref mfr, .ref mwt, .int x_wt, .int x_op, .int x_jo, .ref mfg, .ref mpl, .long x_dr, .ref mtm, .ref mfa, .ref mqu, .ref mmo, .ref mwy, .ref mwn, .ref mma, .ref mwi, .ref mnu, .ref mmv])), (mwo, .inl (c_wo, 1875, .inl w_wo)), (mlu, .inl (c_lu, 20000, .inl w_lu)), (mfg, .inl (c_fg, 12, .inl o0_))] t.heap ∧ va_K (dC, dI) vwCl [(c_wo, .int), (c_lu, .int), (c_fg, .int)] t ∧ va_D (va_A [(o0, .inr (8, [.int x_th, .ref mwo, .ref mim, .ref mhi, .ref mlu, .ref mtp, .int x_td, .ref mfv, .int x_sz, .int x_at, .int x_fr, .int x_to, .int x_va, .int x_fk, .int x_fp, .ref mfr, .ref mwt, .int x_wt, .int x_op, .int x_jo, .ref mfg, .ref mpl, .long x_dr, .ref mtm, .ref mfa, .ref mqu, .ref mmo, .ref mwy, .ref mwn, .ref mma, .ref mwi, .ref mnu, .ref mmv])), (mwo, .inl (c_wo, 1875, .inl w_wo)), (mlu, .inl (c_lu, 20000, .inl w_lu)), (mfg, .inl (c_fg, 12, .inl w_fg))] sz) [(o0, .inr (8, [.int x_th, .ref mwo, .ref mim, .ref mhi, .ref mlu, .ref mtp, .int x_td, .ref mfv, .int x_sz, .int x_at, .int x_fr, .int x_to, .int x_va, .int x_fk, .int x_fp, .ref mfr, .ref mwt, .int x_wt, .int x_op, .int x_jo, .ref mfg, .ref mpl, .long x_dr, .ref mtm, .ref mfa, .ref mqu, .ref mmo, .ref mwy, .ref mwn, .ref mma, .ref mwi, .ref mnu, .ref mmv])), (mwo, .inl (c_wo, 1875, .inl w_wo)), (mlu, .inl (c_lu, 20000, .inl w_lu)), (mfg, .inl (c_fg, 12, .inl o0_))]) (va_A [(o0, .inr (8, [.int x_th, .ref mwo, .ref mim, .ref mhi, .ref mlu, .ref mtp, .int x_td, .ref mfv, .int x_sz, .int x_at, .int x_fr, .int x_to, .int x_va, .int x_fk, .int x_fp, .ref mfr, .ref mwt, .int x_wt, .int x_op, .int x_jo, .ref mfg, .ref mpl, .long x_dr, .ref mtm, .ref mfa, .ref mqu, .ref mmo, .ref mwy, .ref mwn, .ref mma, .ref mwi, .ref mnu, .ref mmv])), (mwo, .inl (c_wo, 1875, .inl w_wo)), (mlu, .inl (c_lu, 20000, .inl w_lu)), (mfg, .inl (c_fg, 12, .inl w_fg))] sz)) 0 0 (va_A [(o0, .inr (8, [.int x_th, .ref mwo, .ref mim, .ref mhi, .ref mlu, .ref mtp, .int x_td, .ref mfv, .int x_sz, .int x_at, .int x_fr, .int x_to, .int x_va, .int x_fk, .int x_fp, .ref mfr, .ref mwt, .int x_wt, .int x_op, .int x_jo, .ref mfg, .ref mpl, .long x_dr, .ref mtm, .ref mfa, .ref mqu, .ref mmo, .ref mwy, .ref mwn, .ref mma, .ref mwi, .ref mnu, .ref mmv])), (mwo, .inl (c_wo, 1875, .inl w_wo)), (mlu, .inl (c_lu, 20000, .inl w_lu)), (mfg, .inl (c_fg, 12, .inl w_fg))] sz) := by
  refine Met.ofW (cc := cX10_at) (maxL := 4) (ret := (some .int)) pn_X10 rfl ?_
  intro p e s m args below meth c s₁ B hml hv
  obtain ⟨rfl, hsz, hP, hK, hD0, hN⟩ := hv
  have hx := B.exec
  have hb := B.bytes
  have hr := B.returns
  have hts := atoms_spec (ws := uX10_at) B.pre
  have hown : s.vm.findClass RX10 = some m.cls := hown_of B.named rfl
  have hlocks := B.notSynchronized
  subst hsz
  have hD := hD0.self (sz := s.heap.size)
  generalize hAe : va_A [(o0, .inr (8, [.int x_th, .ref mwo, .ref mim, .ref mhi, .ref mlu, .ref mtp, .int x_td, .ref mfv, .int x_sz, .int x_at, .int x_fr, .int x_to, .int x_va, .int x_fk, .int x_fp, .ref mfr, .ref mwt, .int x_wt, .int x_op, .int x_jo, .ref mfg, .ref mpl, .long x_dr, .ref mtm, .ref mfa, .ref mqu, .ref mmo, .ref mwy, .ref mwn, .ref mma, .ref mwi, .ref mnu, .ref mmv])), (mwo, .inl (c_wo, 1875, .inl w_wo)), (mlu, .inl (c_lu, 20000, .inl w_lu)), (mfg, .inl (c_fg, 12, .inl w_fg))] s.heap.size = A at hD ⊢
  have hA : ∀ q : Nat, s.heap.size ≤ q → A q := fun q h => by rw [← hAe]; exact Or.inr h
  have hS : va_S A s.heap s.heap [] := va_S.rf
  have hP : va_P (dC, dI) vwCl [(o0, .inr (8, [.int x_th, .ref mwo, .ref mim, .ref mhi, .ref mlu, .ref mtp, .int x_td, .ref mfv, .int x_sz, .int x_at, .int x_fr, .int x_to, .int x_va, .int x_fk, .int x_fp, .ref mfr, .ref mwt, .int x_wt, .int x_op, .int x_jo, .ref mfg, .ref mpl, .long x_dr, .ref mtm, .ref mfa, .ref mqu, .ref mmo, .ref mwy, .ref mwn, .ref mma, .ref mwi, .ref mnu, .ref mmv])), (mwo, .inl (c_wo, 1875, .inl w_wo)), (mlu, .inl (c_lu, 20000, .inl w_lu)), (mfg, .inl (c_fg, 12, .inl w_fg))] s.heap := hP
  have hl := lv_entry ([.ref o0, .int a1, .int a2, .int a3]) (n := 4) (Nat.le_of_ble_eq_true rfl)
  rw [lg_entry_eq]
  generalize (lg_sl ([.ref o0, .int a1, .int a2, .int a3]) ++ List.replicate (4 - (lg_sl ([.ref o0, .int a1, .int a2, .int a3])).length) Slot.unset).toArray = ls at hl ⊢
  have hl : lv_has ls 4 [(0, .ref o0), (1, .int a1), (2, .int a2), (3, .int a3)] := hl
  refine lv_aload_n hx hb dX10_at_0 rfl (lv_at hl 0 rfl) ?_
  refine lv_iload_n hx hb dX10_at_1 rfl (lv_at hl 1 rfl) ?_
  refine vp_callSi (W.runV (As := [.int a1]) (rest := []) ⟨hx, hb, hml, hown, hts⟩ (kX10_isLaw l dC dI o0 x_th mwo mim mhi mlu mtp x_td mfv x_sz x_at x_fr x_to x_va x_fk x_fp mfr mwt x_wt x_op x_jo mfg mpl x_dr mtm mfa mqu mmo mwy mwn mma mwi mnu mmv c_wo w_wo ln bs tk lw li a1 b_ln b_bs b_tk b_lw (hw0) (hw1) (hw2) (hw3) (hw4) (hwz)) (cwV 1 hts gX10_at__X10_isLaw_V89 rfl rfl rfl hd_yX10_isLaw ⟨lel 2 2 rfl, lel 46 48 rfl⟩) ⟨pw_fb, rcv_X10 hK hP (q0 := 0) rfl, (pw_use hP hK hN [0, 1] rfl [0] rfl)⟩ rfl rfl hl.1 rfl (lv_room (Nat.le_of_ble_eq_true rfl)) dX10_at_2 ⟨lel 0 0 rfl, lel 0 0 rfl⟩) (fun r_18 h_r_18 => ?_)
  obtain ⟨b_r_18, nz_r_18⟩ := h_r_18
  have b_r_18 : (0 : Int) ≤ r_18.toInt ∧ r_18.toInt ≤ 1 := b_r_18
  refine lv_if_eq (tgt := 44) hx hb dX10_at_5 (by decide) (fun c_19 => ?_) (fun c_19 => ?_)
  ·
    have n_c_19 : (r_18.toInt : Int) = 0 := c_eq rfl (by decide) c_19
    have b_r_18 : (0 : Int) ≤ r_18.toInt ∧ r_18.toInt ≤ 0 := r_eq1 b_r_18 (by decide : (0 : Int) ≤ (0 : Int32).toInt ∧ (0 : Int32).toInt ≤ 0) n_c_19 (by decide)
    refine lv_bipush (v := (-2)) hx hb dX10_at_44 (by decide) ?_
    have hP9 := hP.sub (ws' := [(o0, .inr (8, [.int x_th, .ref mwo, .ref mim, .ref mhi, .ref mlu, .ref mtp, .int x_td, .ref mfv, .int x_sz, .int x_at, .int x_fr, .int x_to, .int x_va, .int x_fk, .int x_fp, .ref mfr, .ref mwt, .int x_wt, .int x_op, .int x_jo, .ref mfg, .ref mpl, .long x_dr, .ref mtm, .ref mfa, .ref mqu, .ref mmo, .ref mwy, .ref mwn, .ref mma, .ref mwi, .ref mnu, .ref mmv])), (mwo, .inl (c_wo, 1875, .inl w_wo)), (mlu, .inl (c_lu, 20000, .inl w_lu)), (mfg, .inl (c_fg, 12, .inl w_fg))]) [0, 1, 2, 3] rfl
    have hD9 := hD.sub (ws' := [(o0, .inr (8, [.int x_th, .ref mwo, .ref mim, .ref mhi, .ref mlu, .ref mtp, .int x_td, .ref mfv, .int x_sz, .int x_at, .int x_fr, .int x_to, .int x_va, .int x_fk, .int x_fp, .ref mfr, .ref mwt, .int x_wt, .int x_op, .int x_jo, .ref mfg, .ref mpl, .long x_dr, .ref mtm, .ref mfa, .ref mqu, .ref mmo, .ref mwy, .ref mwn, .ref mma, .ref mwi, .ref mnu, .ref mmv])), (mwo, .inl (c_wo, 1875, .inl w_wo)), (mlu, .inl (c_lu, 20000, .inl w_lu)), (mfg, .inl (c_fg, 12, .inl w_fg))]) [0, 1, 2, 3] (by decide) rfl
    have hK9 := hK.sub (tys' := [(c_wo, .int), (c_lu, .int), (c_fg, .int)]) [0, 1, 2] rfl
    exact W.iret (v := (-2)) hx hb hr (fun t ht hW => ⟨⟨(-2), (), rfl, trivial, w_fg, ha_mfg, by rw [ht]; exact hP9, va_K.moved hW.alike hK9, hD9⟩, hS.F ht⟩) hS.2.2 dX10_at_46
  ·
    have n_c_19 : (r_18.toInt : Int) ≠ 0 := c_ne rfl (by decide) c_19
    have b_r_18 : (1 : Int) ≤ r_18.toInt ∧ r_18.toInt ≤ 1 := r_ne1 b_r_18 (by decide : (0 : Int) ≤ (0 : Int32).toInt ∧ (0 : Int32).toInt ≤ 0) n_c_19 (by decide)
    obtain ⟨b_a1, g_20⟩ := nz_r_18 c_19
    refine lv_aload_n hx hb dX10_at_8 rfl (lv_at hl 0 rfl) ?_
    refine lv_iload_n hx hb dX10_at_9 rfl (lv_at hl 2 rfl) ?_
    refine vp_callSi (W.runV (As := [.int a2]) (rest := []) ⟨hx, hb, hml, hown, hts⟩ (kX10_isPlace l dC dI o0 x_th mwo mim mhi mlu mtp x_td mfv x_sz x_at x_fr x_to x_va x_fk x_fp mfr mwt x_wt x_op x_jo mfg mpl x_dr mtm mfa mqu mmo mwy mwn mma mwi mnu mmv c_wo w_wo ln bs tk lw li a2 b_ln b_bs b_tk b_lw (hw0) (hw1) (hw2) (hw3) (hw4) (hwz)) (cwV 1 hts gX10_at__X10_isPlace_V308 rfl rfl rfl hd_yX10_isPlace ⟨lel 2 2 rfl, lel 46 48 rfl⟩) ⟨pw_fb, rcv_X10 hK hP (q0 := 0) rfl, (pw_use hP hK hN [0, 1] rfl [0] rfl)⟩ rfl rfl hl.1 rfl (lv_room (Nat.le_of_ble_eq_true rfl)) dX10_at_10 ⟨lel 0 0 rfl, lel 0 0 rfl⟩) (fun r_21 h_r_21 => ?_)
    obtain ⟨b_r_21, nz_r_21⟩ := h_r_21
    have b_r_21 : (0 : Int) ≤ r_21.toInt ∧ r_21.toInt ≤ 1 := b_r_21
    refine lv_if_eq (tgt := 44) hx hb dX10_at_13 (by decide) (fun c_22 => ?_) (fun c_22 => ?_)
    ·
      have n_c_22 : (r_21.toInt : Int) = 0 := c_eq rfl (by decide) c_22
      have b_r_21 : (0 : Int) ≤ r_21.toInt ∧ r_21.toInt ≤ 0 := r_eq1 b_r_21 (by decide : (0 : Int) ≤ (0 : Int32).toInt ∧ (0 : Int32).toInt ≤ 0) n_c_22 (by decide)
      refine lv_bipush (v := (-2)) hx hb dX10_at_44 (by decide) ?_
      have hP9 := hP.sub (ws' := [(o0, .inr (8, [.int x_th, .ref mwo, .ref mim, .ref mhi, .ref mlu, .ref mtp, .int x_td, .ref mfv, .int x_sz, .int x_at, .int x_fr, .int x_to, .int x_va, .int x_fk, .int x_fp, .ref mfr, .ref mwt, .int x_wt, .int x_op, .int x_jo, .ref mfg, .ref mpl, .long x_dr, .ref mtm, .ref mfa, .ref mqu, .ref mmo, .ref mwy, .ref mwn, .ref mma, .ref mwi, .ref mnu, .ref mmv])), (mwo, .inl (c_wo, 1875, .inl w_wo)), (mlu, .inl (c_lu, 20000, .inl w_lu)), (mfg, .inl (c_fg, 12, .inl w_fg))]) [0, 1, 2, 3] rfl
      have hD9 := hD.sub (ws' := [(o0, .inr (8, [.int x_th, .ref mwo, .ref mim, .ref mhi, .ref mlu, .ref mtp, .int x_td, .ref mfv, .int x_sz, .int x_at, .int x_fr, .int x_to, .int x_va, .int x_fk, .int x_fp, .ref mfr, .ref mwt, .int x_wt, .int x_op, .int x_jo, .ref mfg, .ref mpl, .long x_dr, .ref mtm, .ref mfa, .ref mqu, .ref mmo, .ref mwy, .ref mwn, .ref mma, .ref mwi, .ref mnu, .ref mmv])), (mwo, .inl (c_wo, 1875, .inl w_wo)), (mlu, .inl (c_lu, 20000, .inl w_lu)), (mfg, .inl (c_fg, 12, .inl w_fg))]) [0, 1, 2, 3] (by decide) rfl
      have hK9 := hK.sub (tys' := [(c_wo, .int), (c_lu, .int), (c_fg, .int)]) [0, 1, 2] rfl
      exact W.iret (v := (-2)) hx hb hr (fun t ht hW => ⟨⟨(-2), (), rfl, trivial, w_fg, ha_mfg, by rw [ht]; exact hP9, va_K.moved hW.alike hK9, hD9⟩, hS.F ht⟩) hS.2.2 dX10_at_46
    ·
      have n_c_22 : (r_21.toInt : Int) ≠ 0 := c_ne rfl (by decide) c_22
      have b_r_21 : (1 : Int) ≤ r_21.toInt ∧ r_21.toInt ≤ 1 := r_ne1 b_r_21 (by decide : (0 : Int) ≤ (0 : Int32).toInt ∧ (0 : Int32).toInt ≤ 0) n_c_22 (by decide)
      obtain ⟨b_a2, g_23⟩ := nz_r_21 c_22
      refine lv_iload_n hx hb dX10_at_16 rfl (lv_at hl 3 rfl) ?_
      obtain ⟨z_24, e_z_24⟩ : ∃ y : Int64, y = a3.toInt64 := ⟨_, rfl⟩
      refine lv_i2l (v := z_24) hx hb dX10_at_17 e_z_24.symm ?_
      obtain ⟨q_z_24, b_z_24⟩ := ti_i2l e_z_24 (ti_rng a3)
      refine lv_lconst (v := 0) hx hb dX10_at_18 (by decide) ?_
      refine lv_aload_n hx hb dX10_at_19 rfl (lv_at hl 0 rfl) ?_
      refine va_get (D := (dC, dI)) (ci := 8) (v := .ref mwo) (C := RX10) (T := TX10) (N := 33) hx hb hts iX10_at_X10 hown hK hP 0 rfl rfl 1 (by decide) (hts (.fieldLink RX10 9 "LuckyTicketModel" "world" "[I") (List.mem_of_getElem? (i := 8) rfl)) (fun _ h9 => h9) rfl dX10_at_20 ?_
      refine lv_iconst (v := 1) hx hb dX10_at_23 (by decide) ?_
      refine va_iald hx hb hK hP 1 0 rfl rfl (vp_in_b (by decide : (1 : Int) ≤ (1 : Int32).toInt ∧ (1 : Int32).toInt ≤ 1) (by decide) (by decide)) dX10_at_24 ?_
      refine lv_topi (fun z_25 e_z_25 => ?_)
      obtain rfl : bs = z_25 := (e_z_25.trans hw1).symm
      refine lv_iconst (v := 1) hx hb dX10_at_25 (by decide) ?_
      refine lv_isub hx hb dX10_at_26 ?_
      refine lv_topi (fun z_26 e_z_26 => ?_)
      obtain ⟨q_z_26, b_z_26⟩ := ti_sub (lo := -1) (hi := 15) e_z_26 rfl (by decide : (1 : Int32).toInt = 1) b_bs (by decide : (1 : Int) ≤ (1 : Int32).toInt ∧ (1 : Int32).toInt ≤ 1) (by decide)
      obtain ⟨z_27, e_z_27⟩ : ∃ y : Int64, y = z_26.toInt64 := ⟨_, rfl⟩
      refine lv_i2l (v := z_27) hx hb dX10_at_27 e_z_27.symm ?_
      obtain ⟨q_z_27, b_z_27⟩ := ti_i2l e_z_27 b_z_26
      refine vp_callSi (W.runS (As := [.long z_24, .long 0, .long z_27]) (rest := []) ⟨hx, hb, hml, hown, hts⟩ (kX10_in l dC dI z_24 0 z_27 ) (va_cwS 3 hts gX10_at__X10_in_S82 rfl rfl rfl hd_yX10_in.2 ⟨lel 1 2 rfl, lel 25 48 rfl⟩) ⟨pn_fb, pn_use⟩ rfl rfl hl.1 rfl (lv_room (Nat.le_of_ble_eq_true rfl)) dX10_at_28 ⟨lel 0 0 rfl, lel 0 0 rfl⟩) (fun r_28 h_r_28 => ?_)
      obtain ⟨b_r_28, nz_r_28⟩ := h_r_28
      have b_r_28 : (0 : Int) ≤ r_28.toInt ∧ r_28.toInt ≤ 1 := b_r_28
      refine lv_if_eq (tgt := 44) hx hb dX10_at_31 (by decide) (fun c_29 => ?_) (fun c_29 => ?_)
      ·
        have n_c_29 : (r_28.toInt : Int) = 0 := c_eq rfl (by decide) c_29
        have b_r_28 : (0 : Int) ≤ r_28.toInt ∧ r_28.toInt ≤ 0 := r_eq1 b_r_28 (by decide : (0 : Int) ≤ (0 : Int32).toInt ∧ (0 : Int32).toInt ≤ 0) n_c_29 (by decide)
        refine lv_bipush (v := (-2)) hx hb dX10_at_44 (by decide) ?_
        have hP9 := hP.sub (ws' := [(o0, .inr (8, [.int x_th, .ref mwo, .ref mim, .ref mhi, .ref mlu, .ref mtp, .int x_td, .ref mfv, .int x_sz, .int x_at, .int x_fr, .int x_to, .int x_va, .int x_fk, .int x_fp, .ref mfr, .ref mwt, .int x_wt, .int x_op, .int x_jo, .ref mfg, .ref mpl, .long x_dr, .ref mtm, .ref mfa, .ref mqu, .ref mmo, .ref mwy, .ref mwn, .ref mma, .ref mwi, .ref mnu, .ref mmv])), (mwo, .inl (c_wo, 1875, .inl w_wo)), (mlu, .inl (c_lu, 20000, .inl w_lu)), (mfg, .inl (c_fg, 12, .inl w_fg))]) [0, 1, 2, 3] rfl
        have hD9 := hD.sub (ws' := [(o0, .inr (8, [.int x_th, .ref mwo, .ref mim, .ref mhi, .ref mlu, .ref mtp, .int x_td, .ref mfv, .int x_sz, .int x_at, .int x_fr, .int x_to, .int x_va, .int x_fk, .int x_fp, .ref mfr, .ref mwt, .int x_wt, .int x_op, .int x_jo, .ref mfg, .ref mpl, .long x_dr, .ref mtm, .ref mfa, .ref mqu, .ref mmo, .ref mwy, .ref mwn, .ref mma, .ref mwi, .ref mnu, .ref mmv])), (mwo, .inl (c_wo, 1875, .inl w_wo)), (mlu, .inl (c_lu, 20000, .inl w_lu)), (mfg, .inl (c_fg, 12, .inl w_fg))]) [0, 1, 2, 3] (by decide) rfl
        have hK9 := hK.sub (tys' := [(c_wo, .int), (c_lu, .int), (c_fg, .int)]) [0, 1, 2] rfl
        exact W.iret (v := (-2)) hx hb hr (fun t ht hW => ⟨⟨(-2), (), rfl, trivial, w_fg, ha_mfg, by rw [ht]; exact hP9, va_K.moved hW.alike hK9, hD9⟩, hS.F ht⟩) hS.2.2 dX10_at_46
      ·
        have n_c_29 : (r_28.toInt : Int) ≠ 0 := c_ne rfl (by decide) c_29
        have b_r_28 : (1 : Int) ≤ r_28.toInt ∧ r_28.toInt ≤ 1 := r_ne1 b_r_28 (by decide : (0 : Int) ≤ (0 : Int32).toInt ∧ (0 : Int32).toInt ≤ 0) n_c_29 (by decide)
        have g_30 := nz_r_28 c_29
        have lt0_g_30 := (by decide : (0 : Int64).toInt = 0)
        have b_z_24 : (0 : Int) ≤ z_24.toInt ∧ z_24.toInt ≤ 15 := by
          have q0 := b_z_24
          have q1 := (by decide : (0 : Int) ≤ (0 : Int64).toInt ∧ (0 : Int64).toInt ≤ 0)
          have q2 := b_z_27
          omega
        have b_a3 : (0 : Int) ≤ a3.toInt ∧ a3.toInt ≤ 15 := by
          have q0 := b_z_24; have q1 := q_z_24; have q2 := (ti_rng a3); omega
        refine lv_aload_n hx hb dX10_at_34 rfl (lv_at hl 0 rfl) ?_
        refine lv_iload_n hx hb dX10_at_35 rfl (lv_at hl 1 rfl) ?_
        refine lv_iload_n hx hb dX10_at_36 rfl (lv_at hl 2 rfl) ?_
        refine lv_iload_n hx hb dX10_at_37 rfl (lv_at hl 3 rfl) ?_
        have hFc := va_free (wc := [(o0, .inr (8, [.int x_th, .ref mwo, .ref mim, .ref mhi, .ref mlu, .ref mtp, .int x_td, .ref mfv, .int x_sz, .int x_at, .int x_fr, .int x_to, .int x_va, .int x_fk, .int x_fp, .ref mfr, .ref mwt, .int x_wt, .int x_op, .int x_jo, .ref mfg, .ref mpl, .long x_dr, .ref mtm, .ref mfa, .ref mqu, .ref mmo, .ref mwy, .ref mwn, .ref mma, .ref mwi, .ref mnu, .ref mmv])), (mwo, .inl (c_wo, 1875, .inl w_wo)), (mlu, .inl (c_lu, 20000, .inl w_lu)), (mfg, .inl (c_fg, 12, .inl w_fg))]) hD hS hA [0, 1, 2, 3] rfl
        refine va_calli (va_runV (As := [.int a1, .int a2, .int a3]) (rest := []) ⟨hx, hb, hml, hown, hts⟩ (kX10_figuresAt l dC dI o0 x_th mwo mim mhi mlu mtp x_td mfv x_sz x_at x_fr x_to x_va x_fk x_fp mfr mwt x_wt x_op x_jo mfg mpl x_dr mtm mfa mqu mmo mwy mwn mma mwi mnu mmv c_wo c_lu c_fg w_wo w_lu w_fg ln bs tk lw li a1 a2 a3 (s.heap.size) b_ln b_bs b_tk b_lw b_a2 ha_mfg (hw0) (hw1) (hw2) (hw3) (hw4) (hwz)) (cwV 3 hts gX10_at__X10_figuresAt_V430 rfl rfl rfl hd_yX10_figuresAt ⟨lel 2 2 rfl, lel 48 48 rfl⟩) ⟨hw_fb, rcv_X10 hK hP (q0 := 0) rfl, (hw_use hP hD hK hN [0, 1, 2, 3] rfl (by decide) rfl [0, 1, 2] rfl)⟩ rfl rfl hl.1 rfl (lv_room (Nat.le_of_ble_eq_true rfl)) dX10_at_38 ⟨lel 0 0 rfl, lel 0 0 rfl⟩) hS (fun q _ h => hFc q h) hFc (fun r_31 u_32 t H1 locs ht hvm hw_r_31 hB hz1 hk1 hS => ?_)
        obtain ⟨o0_33, ha_34, hP1, hK1, hD1⟩ := hB
        rw [ht] at hP1
        have hK1 := va_K.moved hvm.symm hK1
        obtain ⟨hP, hD⟩ := va_join (wr := []) (w1 := [(o0, .inr (8, [.int x_th, .ref mwo, .ref mim, .ref mhi, .ref mlu, .ref mtp, .int x_td, .ref mfv, .int x_sz, .int x_at, .int x_fr, .int x_to, .int x_va, .int x_fk, .int x_fp, .ref mfr, .ref mwt, .int x_wt, .int x_op, .int x_jo, .ref mfg, .ref mpl, .long x_dr, .ref mtm, .ref mfa, .ref mqu, .ref mmo, .ref mwy, .ref mwn, .ref mma, .ref mwi, .ref mnu, .ref mmv])), (mwo, .inl (c_wo, 1875, .inl w_wo)), (mlu, .inl (c_lu, 20000, .inl w_lu)), (mfg, .inl (c_fg, 12, .inl o0_33))]) hP hD [0, 1, 2, 3] [] rfl rfl (by decide) (by decide) hk1 hFc hP1 hD1
        have hK := (hK.sub (tys' := []) [] rfl).app hK1
        generalize H1 = H at hP hS ⊢
        have hP : va_P (dC, dI) vwCl [(o0, .inr (8, [.int x_th, .ref mwo, .ref mim, .ref mhi, .ref mlu, .ref mtp, .int x_td, .ref mfv, .int x_sz, .int x_at, .int x_fr, .int x_to, .int x_va, .int x_fk, .int x_fp, .ref mfr, .ref mwt, .int x_wt, .int x_op, .int x_jo, .ref mfg, .ref mpl, .long x_dr, .ref mtm, .ref mfa, .ref mqu, .ref mmo, .ref mwy, .ref mwn, .ref mma, .ref mwi, .ref mnu, .ref mmv])), (mwo, .inl (c_wo, 1875, .inl w_wo)), (mlu, .inl (c_lu, 20000, .inl w_lu)), (mfg, .inl (c_fg, 12, .inl o0_33))] H := hP
        have hD : va_D A [(o0, .inr (8, [.int x_th, .ref mwo, .ref mim, .ref mhi, .ref mlu, .ref mtp, .int x_td, .ref mfv, .int x_sz, .int x_at, .int x_fr, .int x_to, .int x_va, .int x_fk, .int x_fp, .ref mfr, .ref mwt, .int x_wt, .int x_op, .int x_jo, .ref mfg, .ref mpl, .long x_dr, .ref mtm, .ref mfa, .ref mqu, .ref mmo, .ref mwy, .ref mwn, .ref mma, .ref mwi, .ref mnu, .ref mmv])), (mwo, .inl (c_wo, 1875, .inl w_wo)), (mlu, .inl (c_lu, 20000, .inl w_lu)), (mfg, .inl (c_fg, 12, .inl o0_33))] := hD
        have hK : va_K (dC, dI) vwCl [(c_wo, .int), (c_lu, .int), (c_fg, .int)] s := hK
        refine lv_goto (tgt := 46) hx hb dX10_at_41 (by decide) ?_
        have hP9 := hP.sub (ws' := [(o0, .inr (8, [.int x_th, .ref mwo, .ref mim, .ref mhi, .ref mlu, .ref mtp, .int x_td, .ref mfv, .int x_sz, .int x_at, .int x_fr, .int x_to, .int x_va, .int x_fk, .int x_fp, .ref mfr, .ref mwt, .int x_wt, .int x_op, .int x_jo, .ref mfg, .ref mpl, .long x_dr, .ref mtm, .ref mfa, .ref mqu, .ref mmo, .ref mwy, .ref mwn, .ref mma, .ref mwi, .ref mnu, .ref mmv])), (mwo, .inl (c_wo, 1875, .inl w_wo)), (mlu, .inl (c_lu, 20000, .inl w_lu)), (mfg, .inl (c_fg, 12, .inl o0_33))]) [0, 1, 2, 3] rfl
        have hD9 := hD.sub (ws' := [(o0, .inr (8, [.int x_th, .ref mwo, .ref mim, .ref mhi, .ref mlu, .ref mtp, .int x_td, .ref mfv, .int x_sz, .int x_at, .int x_fr, .int x_to, .int x_va, .int x_fk, .int x_fp, .ref mfr, .ref mwt, .int x_wt, .int x_op, .int x_jo, .ref mfg, .ref mpl, .long x_dr, .ref mtm, .ref mfa, .ref mqu, .ref mmo, .ref mwy, .ref mwn, .ref mma, .ref mwi, .ref mnu, .ref mmv])), (mwo, .inl (c_wo, 1875, .inl w_wo)), (mlu, .inl (c_lu, 20000, .inl w_lu)), (mfg, .inl (c_fg, 12, .inl o0_33))]) [0, 1, 2, 3] (by decide) rfl
        have hK9 := hK.sub (tys' := [(c_wo, .int), (c_lu, .int), (c_fg, .int)]) [0, 1, 2] rfl
        exact W.iret (v := r_31) hx hb hr (fun t ht hW => ⟨⟨r_31, (), rfl, trivial, o0_33, ha_34, by rw [ht]; exact hP9, va_K.moved hW.alike hK9, hD9⟩, hS.F ht⟩) hS.2.2 dX10_at_46
theorem dX10_mostly_0 : decode cX10_mostly 0 = .ok (.aload_n 0, 1) := by decide +kernel
theorem dX10_mostly_1 : decode cX10_mostly 1 = .ok (.iload_n 1, 1) := by decide +kernel
theorem dX10_mostly_2 : decode cX10_mostly 2 = .ok (.invokevirtual 89, 3) := by decide +kernel
theorem dX10_mostly_5 : decode cX10_mostly 5 = .ok (.ifCond .eq 11, 3) := by decide +kernel
theorem dX10_mostly_8 : decode cX10_mostly 8 = .ok (.aload_n 0, 1) := by decide +kernel
theorem dX10_mostly_9 : decode cX10_mostly 9 = .ok (.iload_n 2, 1) := by decide +kernel
theorem dX10_mostly_10 : decode cX10_mostly 10 = .ok (.invokevirtual 308, 3) := by decide +kernel
theorem dX10_mostly_13 : decode cX10_mostly 13 = .ok (.ifCond .ne 6, 3) := by decide +kernel
theorem dX10_mostly_16 : decode cX10_mostly 16 = .ok (.bipush (-2), 2) := by decide +kernel
theorem dX10_mostly_18 : decode cX10_mostly 18 = .ok (.ireturn, 1) := by decide +kernel
theorem dX10_mostly_19 : decode cX10_mostly 19 = .ok (.iconst (-1), 1) := by decide +kernel
theorem dX10_mostly_20 : decode cX10_mostly 20 = .ok (.istore_n 3, 1) := by decide +kernel
theorem dX10_mostly_21 : decode cX10_mostly 21 = .ok (.iconst 0, 1) := by decide +kernel
theorem dX10_mostly_22 : decode cX10_mostly 22 = .ok (.istore 4, 2) := by decide +kernel
theorem dX10_mostly_24 : decode cX10_mostly 24 = .ok (.iconst 0, 1) := by decide +kernel
theorem dX10_mostly_25 : decode cX10_mostly 25 = .ok (.istore 5, 2) := by decide +kernel
theorem dX10_mostly_27 : decode cX10_mostly 27 = .ok (.iload 5, 2) := by decide +kernel
theorem dX10_mostly_29 : decode cX10_mostly 29 = .ok (.aload_n 0, 1) := by decide +kernel
theorem dX10_mostly_30 : decode cX10_mostly 30 = .ok (.getfield 9, 3) := by decide +kernel
theorem dX10_mostly_33 : decode cX10_mostly 33 = .ok (.iconst 1, 1) := by decide +kernel
theorem dX10_mostly_34 : decode cX10_mostly 34 = .ok (.iaload, 1) := by decide +kernel
theorem dX10_mostly_35 : decode cX10_mostly 35 = .ok (.if_icmp .ge 36, 3) := by decide +kernel
theorem dX10_mostly_38 : decode cX10_mostly 38 = .ok (.aload_n 0, 1) := by decide +kernel
theorem dX10_mostly_39 : decode cX10_mostly 39 = .ok (.iload_n 1, 1) := by decide +kernel
theorem dX10_mostly_40 : decode cX10_mostly 40 = .ok (.iload_n 2, 1) := by decide +kernel
theorem dX10_mostly_41 : decode cX10_mostly 41 = .ok (.iload 5, 2) := by decide +kernel
theorem dX10_mostly_43 : decode cX10_mostly 43 = .ok (.invokevirtual 430, 3) := by decide +kernel
theorem dX10_mostly_46 : decode cX10_mostly 46 = .ok (.istore 6, 2) := by decide +kernel
theorem dX10_mostly_48 : decode cX10_mostly 48 = .ok (.iload 6, 2) := by decide +kernel
theorem dX10_mostly_50 : decode cX10_mostly 50 = .ok (.iload 4, 2) := by decide +kernel
theorem dX10_mostly_52 : decode cX10_mostly 52 = .ok (.if_icmp .gt 6, 3) := by decide +kernel
theorem dX10_mostly_55 : decode cX10_mostly 55 = .ok (.goto 10, 3) := by decide +kernel
theorem dX10_mostly_58 : decode cX10_mostly 58 = .ok (.iload 5, 2) := by decide +kernel
theorem dX10_mostly_60 : decode cX10_mostly 60 = .ok (.istore_n 3, 1) := by decide +kernel
theorem dX10_mostly_61 : decode cX10_mostly 61 = .ok (.iload 6, 2) := by decide +kernel
theorem dX10_mostly_63 : decode cX10_mostly 63 = .ok (.istore 4, 2) := by decide +kernel
theorem dX10_mostly_65 : decode cX10_mostly 65 = .ok (.iinc 5 1, 3) := by decide +kernel
theorem dX10_mostly_68 : decode cX10_mostly 68 = .ok (.goto (-41), 3) := by decide +kernel
theorem dX10_mostly_71 : decode cX10_mostly 71 = .ok (.iload_n 3, 1) := by decide +kernel
theorem dX10_mostly_72 : decode cX10_mostly 72 = .ok (.ireturn, 1) := by decide +kernel
theorem hd_yX10_mostly : yX10_mostly.cls = RX10 ∧ yX10_mostly.cls ≠ "java/lang/invoke/MethodHandle" ∧ yX10_mostly.cls ≠ "java/lang/invoke/VarHandle" ∧ (parseMethodDescriptor yX10_mostly.desc).map (fun d => d.parameters.length) = some 2 := by decide +kernel
def uX10_mostly : List Cond := List.cons (.code yX10_mostly cX10_mostly 7 (some .int)) (HAppend.hAppend ([.methodLink RX10 89 yX10_isLaw, .instanceMethod yX10_isLaw, .selects RX10 yX10_isLaw yX10_isLaw, .initialized RX10, .methodLink RX10 308 yX10_isPlace, .instanceMethod yX10_isPlace, .selects RX10 yX10_isPlace yX10_isPlace, .fieldLink RX10 9 "LuckyTicketModel" "world" "[I", .methodLink RX10 430 yX10_figuresAt, .instanceMethod yX10_figuresAt, .selects RX10 yX10_figuresAt yX10_figuresAt] : List Cond) (HAppend.hAppend uX10_isLaw (HAppend.hAppend uX10_isPlace (HAppend.hAppend uX10_figuresAt wsX100))))
theorem iX10_mostly_X10 : ∀ w ∈ wsX100, w ∈ uX10_mostly := fun _ h => (List.mem_cons_of_mem _ (List.mem_append_right _ (List.mem_append_right _ (List.mem_append_right _ (List.mem_append_right _ h)))))
theorem guX10_mostly : GU uX10_mostly := gu_cons (gu_app (by decide +kernel) (gu_ap guX10_isLaw (gu_ap guX10_isPlace (gu_ap guX10_figuresAt gws_X10))))
theorem gX10_mostly__X10_isLaw_V89 : GoodIn uX10_mostly (wsV RX10 89 RX10 yX10_isLaw uX10_isLaw) := gin_V (List.mem_of_getElem? (i := 1) rfl) (List.mem_of_getElem? (i := 2) rfl) (List.mem_of_getElem? (i := 3) rfl) (List.mem_of_getElem? (i := 4) rfl) (fun _ h => (List.mem_cons_of_mem _ (List.mem_append_right _ (List.mem_append_left _ h)))) guX10_isLaw
theorem gX10_mostly__X10_isPlace_V308 : GoodIn uX10_mostly (wsV RX10 308 RX10 yX10_isPlace uX10_isPlace) := gin_V (List.mem_of_getElem? (i := 5) rfl) (List.mem_of_getElem? (i := 6) rfl) (List.mem_of_getElem? (i := 7) rfl) (List.mem_of_getElem? (i := 4) rfl) (fun _ h => (List.mem_cons_of_mem _ (List.mem_append_right _ (List.mem_append_right _ (List.mem_append_left _ h))))) guX10_isPlace
theorem gX10_mostly__X10_figuresAt_V430 : GoodIn uX10_mostly (wsV RX10 430 RX10 yX10_figuresAt uX10_figuresAt) := gin_V (List.mem_of_getElem? (i := 9) rfl) (List.mem_of_getElem? (i := 10) rfl) (List.mem_of_getElem? (i := 11) rfl) (List.mem_of_getElem? (i := 4) rfl) (fun _ h => (List.mem_cons_of_mem _ (List.mem_append_right _ (List.mem_append_right _ (List.mem_append_right _ (List.mem_append_left _ h)))))) guX10_figuresAt
set_option maxHeartbeats 4000000 in
set_option maxRecDepth 100000 in
theorem kX10_mostly (l : Launch) (dC : Nat → ClassId) (dI : Nat → Nat → Nat) (o0 : Nat) (x_th : Int32) (mwo : Nat) (mim : Nat) (mhi : Nat) (mlu : Nat) (mtp : Nat) (x_td : Int32) (mfv : Nat) (x_sz : Int32) (x_at : Int32) (x_fr : Int32) (x_to : Int32) (x_va : Int32) (x_fk : Int32) (x_fp : Int32) (mfr : Nat) (mwt : Nat) (x_wt : Int32) (x_op : Int32) (x_jo : Int32) (mfg : Nat) (mpl : Nat) (x_dr : Int64) (mtm : Nat) (mfa : Nat) (mqu : Nat) (mmo : Nat) (mwy : Nat) (mwn : Nat) (mma : Nat) (mwi : Nat) (mnu : Nat) (mmv : Nat) (c_wo : ClassId) (c_lu : ClassId) (c_fg : ClassId) (w_wo : Nat → Int32) (w_lu : Nat → Int32) (w_fg : Nat → Int32) (ln : Int32) (bs : Int32) (tk : Int32) (lw : Int32) (li : Int32) (a1 : Int32) (a2 : Int32) (sz : Nat) (b_ln : (0 : Int) ≤ ln.toInt ∧ ln.toInt ≤ 12) (b_bs : (0 : Int) ≤ bs.toInt ∧ bs.toInt ≤ 16) (b_tk : (0 : Int) ≤ tk.toInt ∧ tk.toInt ≤ 20000) (b_lw : (0 : Int) ≤ lw.toInt ∧ lw.toInt ≤ 9) (ha_mfg : rg w_fg 12 0 15) (hw0 : w_wo 0 = ln) (hw1 : w_wo 1 = bs) (hw2 : w_wo 2 = tk) (hw3 : w_wo 3 = lw) (hw4 : w_wo 4 = li) (hwz : (ln.toInt = 0 ∧ bs.toInt = 0 ∧ tk.toInt = 0 ∧ lw.toInt = 0) ∨ (1 ≤ ln.toInt ∧ 2 ≤ bs.toInt ∧ 1 ≤ tk.toInt)) : Met l yX10_mostly uX10_mostly ({ frames := 2, cells := 0, slots := 0, locals := 48 }) (va_Pc [.ref o0, .int a1, .int a2] (hw (dC, dI) vwCl [(o0, .inr (8, [.int x_th, .ref mwo, .ref mim, .ref mhi, .ref mlu, .ref mtp, .int x_td, .ref mfv, .int x_sz, .int x_at, .int x_fr, .int x_to, .int x_va, .int x_fk, .int x_fp, .ref mfr, .ref mwt, .int x_wt, .int x_op, .int x_jo, .ref mfg, .ref mpl, .long x_dr, .ref mtm, .ref mfa, .ref mqu, .ref mmo, .ref mwy, .ref mwn, .ref mma, .ref mwi, .ref mnu, .ref mmv])), (mwo, .inl (c_wo, 1875, .inl w_wo)), (mlu, .inl (c_lu, 20000, .inl w_lu)), (mfg, .inl (c_fg, 12, .inl w_fg))] [(c_wo, .int), (c_lu, .int), (c_fg, .int)] sz)) (va_Qi (fun (r : Int32) (_ : Unit) => ((-2 : Int) ≤ r.toInt ∧ r.toInt ≤ 16)) (fun (_ : Unit) t => ∃ (o0_ : Nat → Int32), (rg o0_ 12 0 15) ∧ va_P (dC, dI) vwCl [(o0, .inr (8, [.int x_th, .ref mwo, .ref mim, .ref mhi, .ref mlu, .ref mtp, .int x_td, .ref mfv, .int x_sz, .int x_at, .int x_fr, .int x_to, .int x_va, .int x_fk, .int x_fp, .ref mfr, .ref mwt, .int x_wt, .int x_op, .int x_jo, .ref mfg, .ref mpl, .long x_dr, .ref mtm, .ref mfa, .ref mqu, .ref mmo, .ref mwy, .ref mwn, .ref mma, .ref mwi, .ref mnu, .ref mmv])), (mwo, .inl (c_wo, 1875, .inl w_wo)), (mlu, .inl (c_lu, 20000, .inl w_lu)), (mfg, .inl (c_fg, 12, .inl o0_))] t.heap ∧ va_K (dC, dI) vwCl [(c_wo, .int), (c_lu, .int), (c_fg, .int)] t ∧ va_D (va_A [(o0, .inr (8, [.int x_th, .ref mwo, .ref mim, .ref mhi, .ref mlu, .ref mtp, .int x_td, .ref mfv, .int x_sz, .int x_at, .int x_fr, .int x_to, .int x_va, .int x_fk, .int x_fp, .ref mfr, .ref mwt, .int x_wt, .int x_op, .int x_jo, .ref mfg, .ref mpl, .long x_dr, .ref mtm, .ref mfa, .ref mqu, .ref mmo, .ref mwy, .ref mwn, .ref mma, .ref mwi, .ref mnu, .ref mmv])), (mwo, .inl (c_wo, 1875, .inl w_wo)), (mlu, .inl (c_lu, 20000, .inl w_lu)), (mfg, .inl (c_fg, 12, .inl w_fg))] sz) [(o0, .inr (8, [.int x_th, .ref mwo, .ref mim, .ref mhi, .ref mlu, .ref mtp, .int x_td, .ref mfv, .int x_sz, .int x_at, .int x_fr, .int x_to, .int x_va, .int x_fk, .int x_fp, .ref mfr, .ref mwt, .int x_wt, .int x_op, .int x_jo, .ref mfg, .ref mpl, .long x_dr, .ref mtm, .ref mfa, .ref mqu, .ref mmo, .ref mwy, .ref mwn, .ref mma, .ref mwi, .ref mnu, .ref mmv])), (mwo, .inl (c_wo, 1875, .inl w_wo)), (mlu, .inl (c_lu, 20000, .inl w_lu)), (mfg, .inl (c_fg, 12, .inl o0_))]) (va_A [(o0, .inr (8, [.int x_th, .ref mwo, .ref mim, .ref mhi, .ref mlu, .ref mtp, .int x_td, .ref mfv, .int x_sz, .int x_at, .int x_fr, .int x_to, .int x_va, .int x_fk, .int x_fp, .ref mfr, .ref mwt, .int x_wt, .int x_op, .int x_jo, .ref mfg, .ref mpl, .long x_dr, .ref mtm, .ref mfa, .ref mqu, .ref mmo, .ref mwy, .ref mwn, .ref mma, .ref mwi, .ref mnu, .ref mmv])), (mwo, .inl (c_wo, 1875, .inl w_wo)), (mlu, .inl (c_lu, 20000, .inl w_lu)), (mfg, .inl (c_fg, 12, .inl w_fg))] sz)) 0 0 (va_A [(o0, .inr (8, [.int x_th, .ref mwo, .ref mim, .ref mhi, .ref mlu, .ref mtp, .int x_td, .ref mfv, .int x_sz, .int x_at, .int x_fr, .int x_to, .int x_va, .int x_fk, .int x_fp, .ref mfr, .ref mwt, .int x_wt, .int x_op, .int x_jo, .ref mfg, .ref mpl, .long x_dr, .ref mtm, .ref mfa, .ref mqu, .ref mmo, .ref mwy, .ref mwn, .ref mma, .ref mwi, .ref mnu, .ref mmv])), (mwo, .inl (c_wo, 1875, .inl w_wo)), (mlu, .inl (c_lu, 20000, .inl w_lu)), (mfg, .inl (c_fg, 12, .inl w_fg))] sz) := by
  refine Met.ofW (cc := cX10_mostly) (maxL := 7) (ret := (some .int)) pn_X10 rfl ?_
  intro p e s m args below meth c s₁ B hml hv
  obtain ⟨rfl, hsz, hP, hK, hD0, hN⟩ := hv
  have hx := B.exec
  have hb := B.bytes
  have hr := B.returns
  have hts := atoms_spec (ws := uX10_mostly) B.pre
  have hown : s.vm.findClass RX10 = some m.cls := hown_of B.named rfl
  have hlocks := B.notSynchronized
  subst hsz
  have hD := hD0.self (sz := s.heap.size)
  generalize hAe : va_A [(o0, .inr (8, [.int x_th, .ref mwo, .ref mim, .ref mhi, .ref mlu, .ref mtp, .int x_td, .ref mfv, .int x_sz, .int x_at, .int x_fr, .int x_to, .int x_va, .int x_fk, .int x_fp, .ref mfr, .ref mwt, .int x_wt, .int x_op, .int x_jo, .ref mfg, .ref mpl, .long x_dr, .ref mtm, .ref mfa, .ref mqu, .ref mmo, .ref mwy, .ref mwn, .ref mma, .ref mwi, .ref mnu, .ref mmv])), (mwo, .inl (c_wo, 1875, .inl w_wo)), (mlu, .inl (c_lu, 20000, .inl w_lu)), (mfg, .inl (c_fg, 12, .inl w_fg))] s.heap.size = A at hD ⊢
  have hA : ∀ q : Nat, s.heap.size ≤ q → A q := fun q h => by rw [← hAe]; exact Or.inr h
  have hS : va_S A s.heap s.heap [] := va_S.rf
  have hP : va_P (dC, dI) vwCl [(o0, .inr (8, [.int x_th, .ref mwo, .ref mim, .ref mhi, .ref mlu, .ref mtp, .int x_td, .ref mfv, .int x_sz, .int x_at, .int x_fr, .int x_to, .int x_va, .int x_fk, .int x_fp, .ref mfr, .ref mwt, .int x_wt, .int x_op, .int x_jo, .ref mfg, .ref mpl, .long x_dr, .ref mtm, .ref mfa, .ref mqu, .ref mmo, .ref mwy, .ref mwn, .ref mma, .ref mwi, .ref mnu, .ref mmv])), (mwo, .inl (c_wo, 1875, .inl w_wo)), (mlu, .inl (c_lu, 20000, .inl w_lu)), (mfg, .inl (c_fg, 12, .inl w_fg))] s.heap := hP
  have hl := lv_entry ([.ref o0, .int a1, .int a2]) (n := 7) (Nat.le_of_ble_eq_true rfl)
  rw [lg_entry_eq]
  generalize (lg_sl ([.ref o0, .int a1, .int a2]) ++ List.replicate (7 - (lg_sl ([.ref o0, .int a1, .int a2])).length) Slot.unset).toArray = ls at hl ⊢
  have hl : lv_has ls 7 [(0, .ref o0), (1, .int a1), (2, .int a2)] := hl
  refine lv_aload_n hx hb dX10_mostly_0 rfl (lv_at hl 0 rfl) ?_
  refine lv_iload_n hx hb dX10_mostly_1 rfl (lv_at hl 1 rfl) ?_
  refine vp_callSi (W.runV (As := [.int a1]) (rest := []) ⟨hx, hb, hml, hown, hts⟩ (kX10_isLaw l dC dI o0 x_th mwo mim mhi mlu mtp x_td mfv x_sz x_at x_fr x_to x_va x_fk x_fp mfr mwt x_wt x_op x_jo mfg mpl x_dr mtm mfa mqu mmo mwy mwn mma mwi mnu mmv c_wo w_wo ln bs tk lw li a1 b_ln b_bs b_tk b_lw (hw0) (hw1) (hw2) (hw3) (hw4) (hwz)) (cwV 1 hts gX10_mostly__X10_isLaw_V89 rfl rfl rfl hd_yX10_isLaw ⟨lel 2 2 rfl, lel 46 48 rfl⟩) ⟨pw_fb, rcv_X10 hK hP (q0 := 0) rfl, (pw_use hP hK hN [0, 1] rfl [0] rfl)⟩ rfl rfl hl.1 rfl (lv_room (Nat.le_of_ble_eq_true rfl)) dX10_mostly_2 ⟨lel 0 0 rfl, lel 0 0 rfl⟩) (fun r_81 h_r_81 => ?_)
  obtain ⟨b_r_81, nz_r_81⟩ := h_r_81
  have b_r_81 : (0 : Int) ≤ r_81.toInt ∧ r_81.toInt ≤ 1 := b_r_81
  refine lv_if_eq (tgt := 16) hx hb dX10_mostly_5 (by decide) (fun c_82 => ?_) (fun c_82 => ?_)
  ·
    have n_c_82 : (r_81.toInt : Int) = 0 := c_eq rfl (by decide) c_82
    have b_r_81 : (0 : Int) ≤ r_81.toInt ∧ r_81.toInt ≤ 0 := r_eq1 b_r_81 (by decide : (0 : Int) ≤ (0 : Int32).toInt ∧ (0 : Int32).toInt ≤ 0) n_c_82 (by decide)
    refine lv_bipush (v := (-2)) hx hb dX10_mostly_16 (by decide) ?_
    have hP9 := hP.sub (ws' := [(o0, .inr (8, [.int x_th, .ref mwo, .ref mim, .ref mhi, .ref mlu, .ref mtp, .int x_td, .ref mfv, .int x_sz, .int x_at, .int x_fr, .int x_to, .int x_va, .int x_fk, .int x_fp, .ref mfr, .ref mwt, .int x_wt, .int x_op, .int x_jo, .ref mfg, .ref mpl, .long x_dr, .ref mtm, .ref mfa, .ref mqu, .ref mmo, .ref mwy, .ref mwn, .ref mma, .ref mwi, .ref mnu, .ref mmv])), (mwo, .inl (c_wo, 1875, .inl w_wo)), (mlu, .inl (c_lu, 20000, .inl w_lu)), (mfg, .inl (c_fg, 12, .inl w_fg))]) [0, 1, 2, 3] rfl
    have hD9 := hD.sub (ws' := [(o0, .inr (8, [.int x_th, .ref mwo, .ref mim, .ref mhi, .ref mlu, .ref mtp, .int x_td, .ref mfv, .int x_sz, .int x_at, .int x_fr, .int x_to, .int x_va, .int x_fk, .int x_fp, .ref mfr, .ref mwt, .int x_wt, .int x_op, .int x_jo, .ref mfg, .ref mpl, .long x_dr, .ref mtm, .ref mfa, .ref mqu, .ref mmo, .ref mwy, .ref mwn, .ref mma, .ref mwi, .ref mnu, .ref mmv])), (mwo, .inl (c_wo, 1875, .inl w_wo)), (mlu, .inl (c_lu, 20000, .inl w_lu)), (mfg, .inl (c_fg, 12, .inl w_fg))]) [0, 1, 2, 3] (by decide) rfl
    have hK9 := hK.sub (tys' := [(c_wo, .int), (c_lu, .int), (c_fg, .int)]) [0, 1, 2] rfl
    exact W.iret (v := (-2)) hx hb hr (fun t ht hW => ⟨⟨(-2), (), rfl, (rg_w (by decide : (-2 : Int) ≤ ((-2) : Int32).toInt ∧ ((-2) : Int32).toInt ≤ -2) (by decide) (by decide)), w_fg, ha_mfg, by rw [ht]; exact hP9, va_K.moved hW.alike hK9, hD9⟩, hS.F ht⟩) hS.2.2 dX10_mostly_18
  ·
    have n_c_82 : (r_81.toInt : Int) ≠ 0 := c_ne rfl (by decide) c_82
    have b_r_81 : (1 : Int) ≤ r_81.toInt ∧ r_81.toInt ≤ 1 := r_ne1 b_r_81 (by decide : (0 : Int) ≤ (0 : Int32).toInt ∧ (0 : Int32).toInt ≤ 0) n_c_82 (by decide)
    obtain ⟨b_a1, g_83⟩ := nz_r_81 c_82
    refine lv_aload_n hx hb dX10_mostly_8 rfl (lv_at hl 0 rfl) ?_
    refine lv_iload_n hx hb dX10_mostly_9 rfl (lv_at hl 2 rfl) ?_
    refine vp_callSi (W.runV (As := [.int a2]) (rest := []) ⟨hx, hb, hml, hown, hts⟩ (kX10_isPlace l dC dI o0 x_th mwo mim mhi mlu mtp x_td mfv x_sz x_at x_fr x_to x_va x_fk x_fp mfr mwt x_wt x_op x_jo mfg mpl x_dr mtm mfa mqu mmo mwy mwn mma mwi mnu mmv c_wo w_wo ln bs tk lw li a2 b_ln b_bs b_tk b_lw (hw0) (hw1) (hw2) (hw3) (hw4) (hwz)) (cwV 1 hts gX10_mostly__X10_isPlace_V308 rfl rfl rfl hd_yX10_isPlace ⟨lel 2 2 rfl, lel 46 48 rfl⟩) ⟨pw_fb, rcv_X10 hK hP (q0 := 0) rfl, (pw_use hP hK hN [0, 1] rfl [0] rfl)⟩ rfl rfl hl.1 rfl (lv_room (Nat.le_of_ble_eq_true rfl)) dX10_mostly_10 ⟨lel 0 0 rfl, lel 0 0 rfl⟩) (fun r_84 h_r_84 => ?_)
    obtain ⟨b_r_84, nz_r_84⟩ := h_r_84
    have b_r_84 : (0 : Int) ≤ r_84.toInt ∧ r_84.toInt ≤ 1 := b_r_84
    refine lv_if_ne (tgt := 19) hx hb dX10_mostly_13 (by decide) (fun c_85 => ?_) (fun c_85 => ?_)
    ·
      have n_c_85 : (r_84.toInt : Int) ≠ 0 := c_ne rfl (by decide) c_85
      have b_r_84 : (1 : Int) ≤ r_84.toInt ∧ r_84.toInt ≤ 1 := r_ne1 b_r_84 (by decide : (0 : Int) ≤ (0 : Int32).toInt ∧ (0 : Int32).toInt ≤ 0) n_c_85 (by decide)
      obtain ⟨b_a2, g_86⟩ := nz_r_84 c_85
      refine lv_iconst (v := (-1)) hx hb dX10_mostly_19 (by decide) ?_
      refine lv_istore_n (lv' := [(3, .int (-1)), (0, .ref o0), (1, .int a1), (2, .int a2)]) hx hb dX10_mostly_20 rfl hl (by decide) rfl (fun ls hl => ?_)
      refine lv_iconst (v := 0) hx hb dX10_mostly_21 (by decide) ?_
      refine lv_istore (lv' := [(4, .int 0), (3, .int (-1)), (0, .ref o0), (1, .int a1), (2, .int a2)]) hx hb dX10_mostly_22 hl (by decide) rfl (fun ls hl => ?_)
      refine lv_iconst (v := 0) hx hb dX10_mostly_24 (by decide) ?_
      refine lv_istore (lv' := [(5, .int 0), (4, .int 0), (3, .int (-1)), (0, .ref o0), (1, .int a1), (2, .int a2)]) hx hb dX10_mostly_25 hl (by decide) rfl (fun ls hl => ?_)
      refine loopW (σ := Int32 × Int32 × Int32 × (Nat → Int32)) (fun v => (16 - v.1.toInt).toNat) (fun v H locs ls => ((0 : Int) ≤ v.1.toInt ∧ v.1.toInt ≤ 16) ∧ ((0 : Int) ≤ v.2.1.toInt ∧ v.2.1.toInt ≤ 2147483647) ∧ ((-1 : Int) ≤ v.2.2.1.toInt ∧ v.2.2.1.toInt ≤ 16) ∧ (rg v.2.2.2 12 0 15) ∧ va_P (dC, dI) vwCl [(o0, .inr (8, [.int x_th, .ref mwo, .ref mim, .ref mhi, .ref mlu, .ref mtp, .int x_td, .ref mfv, .int x_sz, .int x_at, .int x_fr, .int x_to, .int x_va, .int x_fk, .int x_fp, .ref mfr, .ref mwt, .int x_wt, .int x_op, .int x_jo, .ref mfg, .ref mpl, .long x_dr, .ref mtm, .ref mfa, .ref mqu, .ref mmo, .ref mwy, .ref mwn, .ref mma, .ref mwi, .ref mnu, .ref mmv])), (mwo, .inl (c_wo, 1875, .inl w_wo)), (mlu, .inl (c_lu, 20000, .inl w_lu)), (mfg, .inl (c_fg, 12, .inl v.2.2.2))] H ∧ va_D A [(o0, .inr (8, [.int x_th, .ref mwo, .ref mim, .ref mhi, .ref mlu, .ref mtp, .int x_td, .ref mfv, .int x_sz, .int x_at, .int x_fr, .int x_to, .int x_va, .int x_fk, .int x_fp, .ref mfr, .ref mwt, .int x_wt, .int x_op, .int x_jo, .ref mfg, .ref mpl, .long x_dr, .ref mtm, .ref mfa, .ref mqu, .ref mmo, .ref mwy, .ref mwn, .ref mma, .ref mwi, .ref mnu, .ref mmv])), (mwo, .inl (c_wo, 1875, .inl w_wo)), (mlu, .inl (c_lu, 20000, .inl w_lu)), (mfg, .inl (c_fg, 12, .inl v.2.2.2))] ∧ va_S A s.heap H locs ∧ lv_has ls 7 [(5, .int v.1), (4, .int v.2.1), (3, .int v.2.2.1), (0, .ref o0), (1, .int a1), (2, .int a2)]) (fun v H locs ls hI ih_27_150 => ?_) ((0 : Int32), (0 : Int32), (-1 : Int32), w_fg) ⟨(show (0 : Int) ≤ (0 : Int32).toInt ∧ (0 : Int32).toInt ≤ 16 from (rg_w (by decide : (0 : Int) ≤ (0 : Int32).toInt ∧ (0 : Int32).toInt ≤ 0) (by decide) (by decide))), (show (0 : Int) ≤ (0 : Int32).toInt ∧ (0 : Int32).toInt ≤ 2147483647 from (rg_w (by decide : (0 : Int) ≤ (0 : Int32).toInt ∧ (0 : Int32).toInt ≤ 0) (by decide) (by decide))), (show (-1 : Int) ≤ (-1 : Int32).toInt ∧ (-1 : Int32).toInt ≤ 16 from (rg_w (by decide : (-1 : Int) ≤ ((-1) : Int32).toInt ∧ ((-1) : Int32).toInt ≤ -1) (by decide) (by decide))), (show rg w_fg 12 0 15 from ha_mfg), hP, hD, hS, lv_sub hl [0, 1, 2, 3, 4, 5] rfl⟩
      obtain ⟨y_97, y_98, y_99, f_100⟩ := v
      obtain ⟨b_y_97, b_y_98, b_y_99, ha_f_100, hP, hD, hS, hl⟩ := hI
      have b_y_97 : (0 : Int) ≤ y_97.toInt ∧ y_97.toInt ≤ 16 := b_y_97
      have b_y_98 : (0 : Int) ≤ y_98.toInt ∧ y_98.toInt ≤ 2147483647 := b_y_98
      have b_y_99 : (-1 : Int) ≤ y_99.toInt ∧ y_99.toInt ≤ 16 := b_y_99
      have ha_f_100 : rg f_100 12 0 15 := ha_f_100
      have hP : va_P (dC, dI) vwCl [(o0, .inr (8, [.int x_th, .ref mwo, .ref mim, .ref mhi, .ref mlu, .ref mtp, .int x_td, .ref mfv, .int x_sz, .int x_at, .int x_fr, .int x_to, .int x_va, .int x_fk, .int x_fp, .ref mfr, .ref mwt, .int x_wt, .int x_op, .int x_jo, .ref mfg, .ref mpl, .long x_dr, .ref mtm, .ref mfa, .ref mqu, .ref mmo, .ref mwy, .ref mwn, .ref mma, .ref mwi, .ref mnu, .ref mmv])), (mwo, .inl (c_wo, 1875, .inl w_wo)), (mlu, .inl (c_lu, 20000, .inl w_lu)), (mfg, .inl (c_fg, 12, .inl f_100))] H := hP
      have hD : va_D A [(o0, .inr (8, [.int x_th, .ref mwo, .ref mim, .ref mhi, .ref mlu, .ref mtp, .int x_td, .ref mfv, .int x_sz, .int x_at, .int x_fr, .int x_to, .int x_va, .int x_fk, .int x_fp, .ref mfr, .ref mwt, .int x_wt, .int x_op, .int x_jo, .ref mfg, .ref mpl, .long x_dr, .ref mtm, .ref mfa, .ref mqu, .ref mmo, .ref mwy, .ref mwn, .ref mma, .ref mwi, .ref mnu, .ref mmv])), (mwo, .inl (c_wo, 1875, .inl w_wo)), (mlu, .inl (c_lu, 20000, .inl w_lu)), (mfg, .inl (c_fg, 12, .inl f_100))] := hD
      have hl : lv_has ls 7 [(5, .int y_97), (4, .int y_98), (3, .int y_99), (0, .ref o0), (1, .int a1), (2, .int a2)] := hl
      refine lv_iload hx hb dX10_mostly_27 (lv_at hl 0 rfl) ?_
      refine lv_aload_n hx hb dX10_mostly_29 rfl (lv_at hl 3 rfl) ?_
      refine va_get (D := (dC, dI)) (ci := 8) (v := .ref mwo) (C := RX10) (T := TX10) (N := 33) hx hb hts iX10_mostly_X10 hown hK hP 0 rfl rfl 1 (by decide) (hts (.fieldLink RX10 9 "LuckyTicketModel" "world" "[I") (List.mem_of_getElem? (i := 8) rfl)) (fun _ h9 => h9) rfl dX10_mostly_30 ?_
      refine lv_iconst (v := 1) hx hb dX10_mostly_33 (by decide) ?_
      refine va_iald hx hb hK hP 1 0 rfl rfl (vp_in_b (by decide : (1 : Int) ≤ (1 : Int32).toInt ∧ (1 : Int32).toInt ≤ 1) (by decide) (by decide)) dX10_mostly_34 ?_
      refine lv_topi (fun z_151 e_z_151 => ?_)
      obtain rfl : bs = z_151 := (e_z_151.trans hw1).symm
      refine lv_icmp_ge (tgt := 71) hx hb dX10_mostly_35 (by decide) (fun c_152 => ?_) (fun c_152 => ?_)
      ·
        have n_c_152 : (bs.toInt : Int) ≤ y_97.toInt := c_ge rfl rfl c_152
        refine lv_iload_n hx hb dX10_mostly_71 rfl (lv_at hl 2 rfl) ?_
        have hP9 := hP.sub (ws' := [(o0, .inr (8, [.int x_th, .ref mwo, .ref mim, .ref mhi, .ref mlu, .ref mtp, .int x_td, .ref mfv, .int x_sz, .int x_at, .int x_fr, .int x_to, .int x_va, .int x_fk, .int x_fp, .ref mfr, .ref mwt, .int x_wt, .int x_op, .int x_jo, .ref mfg, .ref mpl, .long x_dr, .ref mtm, .ref mfa, .ref mqu, .ref mmo, .ref mwy, .ref mwn, .ref mma, .ref mwi, .ref mnu, .ref mmv])), (mwo, .inl (c_wo, 1875, .inl w_wo)), (mlu, .inl (c_lu, 20000, .inl w_lu)), (mfg, .inl (c_fg, 12, .inl f_100))]) [0, 1, 2, 3] rfl
        have hD9 := hD.sub (ws' := [(o0, .inr (8, [.int x_th, .ref mwo, .ref mim, .ref mhi, .ref mlu, .ref mtp, .int x_td, .ref mfv, .int x_sz, .int x_at, .int x_fr, .int x_to, .int x_va, .int x_fk, .int x_fp, .ref mfr, .ref mwt, .int x_wt, .int x_op, .int x_jo, .ref mfg, .ref mpl, .long x_dr, .ref mtm, .ref mfa, .ref mqu, .ref mmo, .ref mwy, .ref mwn, .ref mma, .ref mwi, .ref mnu, .ref mmv])), (mwo, .inl (c_wo, 1875, .inl w_wo)), (mlu, .inl (c_lu, 20000, .inl w_lu)), (mfg, .inl (c_fg, 12, .inl f_100))]) [0, 1, 2, 3] (by decide) rfl
        have hK9 := hK.sub (tys' := [(c_wo, .int), (c_lu, .int), (c_fg, .int)]) [0, 1, 2] rfl
        exact W.iret (v := y_99) hx hb hr (fun t ht hW => ⟨⟨y_99, (), rfl, (rg_w b_y_99 (by decide) (by decide)), f_100, ha_f_100, by rw [ht]; exact hP9, va_K.moved hW.alike hK9, hD9⟩, hS.F ht⟩) hS.2.2 dX10_mostly_72
      ·
        have n_c_152 : (y_97.toInt : Int) < bs.toInt := c_nge rfl rfl c_152
        have b_y_97 : (0 : Int) ≤ y_97.toInt ∧ y_97.toInt ≤ 15 := r_lt1 b_y_97 b_bs n_c_152 (by decide)
        have b_bs : (1 : Int) ≤ bs.toInt ∧ bs.toInt ≤ 16 := r_lt2 b_y_97 b_bs n_c_152 (by decide)
        refine lv_aload_n hx hb dX10_mostly_38 rfl (lv_at hl 3 rfl) ?_
        refine lv_iload_n hx hb dX10_mostly_39 rfl (lv_at hl 4 rfl) ?_
        refine lv_iload_n hx hb dX10_mostly_40 rfl (lv_at hl 5 rfl) ?_
        refine lv_iload hx hb dX10_mostly_41 (lv_at hl 0 rfl) ?_
        have hFc := va_free (wc := [(o0, .inr (8, [.int x_th, .ref mwo, .ref mim, .ref mhi, .ref mlu, .ref mtp, .int x_td, .ref mfv, .int x_sz, .int x_at, .int x_fr, .int x_to, .int x_va, .int x_fk, .int x_fp, .ref mfr, .ref mwt, .int x_wt, .int x_op, .int x_jo, .ref mfg, .ref mpl, .long x_dr, .ref mtm, .ref mfa, .ref mqu, .ref mmo, .ref mwy, .ref mwn, .ref mma, .ref mwi, .ref mnu, .ref mmv])), (mwo, .inl (c_wo, 1875, .inl w_wo)), (mlu, .inl (c_lu, 20000, .inl w_lu)), (mfg, .inl (c_fg, 12, .inl f_100))]) hD hS hA [0, 1, 2, 3] rfl
        refine va_calli (va_runV (As := [.int a1, .int a2, .int y_97]) (rest := []) ⟨hx, hb, hml, hown, hts⟩ (kX10_figuresAt l dC dI o0 x_th mwo mim mhi mlu mtp x_td mfv x_sz x_at x_fr x_to x_va x_fk x_fp mfr mwt x_wt x_op x_jo mfg mpl x_dr mtm mfa mqu mmo mwy mwn mma mwi mnu mmv c_wo c_lu c_fg w_wo w_lu f_100 ln bs tk lw li a1 a2 y_97 (H.size) b_ln (rg_w b_bs (by decide) (by decide)) b_tk b_lw b_a2 ha_f_100 (hw0) (hw1) (hw2) (hw3) (hw4) (hwz)) (cwV 3 hts gX10_mostly__X10_figuresAt_V430 rfl rfl rfl hd_yX10_figuresAt ⟨lel 2 2 rfl, lel 48 48 rfl⟩) ⟨hw_fb, rcv_X10 hK hP (q0 := 0) rfl, (hw_use hP hD hK hN [0, 1, 2, 3] rfl (by decide) rfl [0, 1, 2] rfl)⟩ rfl rfl hl.1 rfl (lv_room (Nat.le_of_ble_eq_true rfl)) dX10_mostly_43 ⟨lel 0 0 rfl, lel 0 0 rfl⟩) hS (fun q _ h => hFc q h) hFc (fun r_153 u_154 t H1 locs ht hvm hw_r_153 hB hz1 hk1 hS => ?_)
        obtain ⟨o0_155, ha_156, hP1, hK1, hD1⟩ := hB
        rw [ht] at hP1
        have hK1 := va_K.moved hvm.symm hK1
        obtain ⟨hP, hD⟩ := va_join (wr := []) (w1 := [(o0, .inr (8, [.int x_th, .ref mwo, .ref mim, .ref mhi, .ref mlu, .ref mtp, .int x_td, .ref mfv, .int x_sz, .int x_at, .int x_fr, .int x_to, .int x_va, .int x_fk, .int x_fp, .ref mfr, .ref mwt, .int x_wt, .int x_op, .int x_jo, .ref mfg, .ref mpl, .long x_dr, .ref mtm, .ref mfa, .ref mqu, .ref mmo, .ref mwy, .ref mwn, .ref mma, .ref mwi, .ref mnu, .ref mmv])), (mwo, .inl (c_wo, 1875, .inl w_wo)), (mlu, .inl (c_lu, 20000, .inl w_lu)), (mfg, .inl (c_fg, 12, .inl o0_155))]) hP hD [0, 1, 2, 3] [] rfl rfl (by decide) (by decide) hk1 hFc hP1 hD1
        have hK := (hK.sub (tys' := []) [] rfl).app hK1
        generalize H1 = H at hP hS ⊢
        have hP : va_P (dC, dI) vwCl [(o0, .inr (8, [.int x_th, .ref mwo, .ref mim, .ref mhi, .ref mlu, .ref mtp, .int x_td, .ref mfv, .int x_sz, .int x_at, .int x_fr, .int x_to, .int x_va, .int x_fk, .int x_fp, .ref mfr, .ref mwt, .int x_wt, .int x_op, .int x_jo, .ref mfg, .ref mpl, .long x_dr, .ref mtm, .ref mfa, .ref mqu, .ref mmo, .ref mwy, .ref mwn, .ref mma, .ref mwi, .ref mnu, .ref mmv])), (mwo, .inl (c_wo, 1875, .inl w_wo)), (mlu, .inl (c_lu, 20000, .inl w_lu)), (mfg, .inl (c_fg, 12, .inl o0_155))] H := hP
        have hD : va_D A [(o0, .inr (8, [.int x_th, .ref mwo, .ref mim, .ref mhi, .ref mlu, .ref mtp, .int x_td, .ref mfv, .int x_sz, .int x_at, .int x_fr, .int x_to, .int x_va, .int x_fk, .int x_fp, .ref mfr, .ref mwt, .int x_wt, .int x_op, .int x_jo, .ref mfg, .ref mpl, .long x_dr, .ref mtm, .ref mfa, .ref mqu, .ref mmo, .ref mwy, .ref mwn, .ref mma, .ref mwi, .ref mnu, .ref mmv])), (mwo, .inl (c_wo, 1875, .inl w_wo)), (mlu, .inl (c_lu, 20000, .inl w_lu)), (mfg, .inl (c_fg, 12, .inl o0_155))] := hD
        have hK : va_K (dC, dI) vwCl [(c_wo, .int), (c_lu, .int), (c_fg, .int)] s := hK
        refine lv_istore (lv' := [(6, .int r_153), (5, .int y_97), (4, .int y_98), (3, .int y_99), (0, .ref o0), (1, .int a1), (2, .int a2)]) hx hb dX10_mostly_46 hl (by decide) rfl (fun ls hl => ?_)
        refine lv_iload hx hb dX10_mostly_48 (lv_at hl 0 rfl) ?_
        refine lv_iload hx hb dX10_mostly_50 (lv_at hl 2 rfl) ?_
        refine cutW (σ := Int32 × Int32) (pc2 := 65) (st2 := fun v => []) (cells2 := 0) (slots2 := 0) (fun v H locs ls => ((0 : Int) ≤ v.1.toInt ∧ v.1.toInt ≤ 2147483647) ∧ ((-1 : Int) ≤ v.2.toInt ∧ v.2.toInt ≤ 16) ∧ va_P (dC, dI) vwCl [(o0, .inr (8, [.int x_th, .ref mwo, .ref mim, .ref mhi, .ref mlu, .ref mtp, .int x_td, .ref mfv, .int x_sz, .int x_at, .int x_fr, .int x_to, .int x_va, .int x_fk, .int x_fp, .ref mfr, .ref mwt, .int x_wt, .int x_op, .int x_jo, .ref mfg, .ref mpl, .long x_dr, .ref mtm, .ref mfa, .ref mqu, .ref mmo, .ref mwy, .ref mwn, .ref mma, .ref mwi, .ref mnu, .ref mmv])), (mwo, .inl (c_wo, 1875, .inl w_wo)), (mlu, .inl (c_lu, 20000, .inl w_lu)), (mfg, .inl (c_fg, 12, .inl o0_155))] H ∧ va_D A [(o0, .inr (8, [.int x_th, .ref mwo, .ref mim, .ref mhi, .ref mlu, .ref mtp, .int x_td, .ref mfv, .int x_sz, .int x_at, .int x_fr, .int x_to, .int x_va, .int x_fk, .int x_fp, .ref mfr, .ref mwt, .int x_wt, .int x_op, .int x_jo, .ref mfg, .ref mpl, .long x_dr, .ref mtm, .ref mfa, .ref mqu, .ref mmo, .ref mwy, .ref mwn, .ref mma, .ref mwi, .ref mnu, .ref mmv])), (mwo, .inl (c_wo, 1875, .inl w_wo)), (mlu, .inl (c_lu, 20000, .inl w_lu)), (mfg, .inl (c_fg, 12, .inl o0_155))] ∧ va_S A s.heap H locs ∧ lv_has ls 7 [(4, .int v.1), (3, .int v.2), (6, .int r_153), (5, .int y_97), (0, .ref o0), (1, .int a1), (2, .int a2)]) (fun v H locs ls hI => ?_) (fun hj_65_159 => ?_)
        ·
          obtain ⟨y_158, y_159⟩ := v
          obtain ⟨b_y_158, b_y_159, hP, hD, hS, hl⟩ := hI
          have b_y_158 : (0 : Int) ≤ y_158.toInt ∧ y_158.toInt ≤ 2147483647 := b_y_158
          have b_y_159 : (-1 : Int) ≤ y_159.toInt ∧ y_159.toInt ≤ 16 := b_y_159
          have hP : va_P (dC, dI) vwCl [(o0, .inr (8, [.int x_th, .ref mwo, .ref mim, .ref mhi, .ref mlu, .ref mtp, .int x_td, .ref mfv, .int x_sz, .int x_at, .int x_fr, .int x_to, .int x_va, .int x_fk, .int x_fp, .ref mfr, .ref mwt, .int x_wt, .int x_op, .int x_jo, .ref mfg, .ref mpl, .long x_dr, .ref mtm, .ref mfa, .ref mqu, .ref mmo, .ref mwy, .ref mwn, .ref mma, .ref mwi, .ref mnu, .ref mmv])), (mwo, .inl (c_wo, 1875, .inl w_wo)), (mlu, .inl (c_lu, 20000, .inl w_lu)), (mfg, .inl (c_fg, 12, .inl o0_155))] H := hP
          have hD : va_D A [(o0, .inr (8, [.int x_th, .ref mwo, .ref mim, .ref mhi, .ref mlu, .ref mtp, .int x_td, .ref mfv, .int x_sz, .int x_at, .int x_fr, .int x_to, .int x_va, .int x_fk, .int x_fp, .ref mfr, .ref mwt, .int x_wt, .int x_op, .int x_jo, .ref mfg, .ref mpl, .long x_dr, .ref mtm, .ref mfa, .ref mqu, .ref mmo, .ref mwy, .ref mwn, .ref mma, .ref mwi, .ref mnu, .ref mmv])), (mwo, .inl (c_wo, 1875, .inl w_wo)), (mlu, .inl (c_lu, 20000, .inl w_lu)), (mfg, .inl (c_fg, 12, .inl o0_155))] := hD
          have hl : lv_has ls 7 [(4, .int y_158), (3, .int y_159), (6, .int r_153), (5, .int y_97), (0, .ref o0), (1, .int a1), (2, .int a2)] := hl
          obtain ⟨z_160, e_z_160⟩ : ∃ y : Int32, y = y_97 + 1 := ⟨_, rfl⟩
          refine lv_iinc (v := z_160) (lv' := [(5, .int z_160), (4, .int y_158), (3, .int y_159), (6, .int r_153), (0, .ref o0), (1, .int a1), (2, .int a2)]) hx hb dX10_mostly_65 hl (k := 3) rfl (by rw [e_z_160]; rfl) (by decide) rfl (fun ls hl => ?_)
          obtain ⟨q_z_160, b_z_160⟩ := ti_add (lo := 1) (hi := 16) e_z_160 rfl (by decide : (1 : Int32).toInt = 1) b_y_97 (by decide : (1 : Int) ≤ (1 : Int32).toInt ∧ (1 : Int32).toInt ≤ 1) (by decide)
          refine lv_goto (tgt := 27) hx hb dX10_mostly_68 (by decide) ?_
          exact ih_27_150 (z_160, y_158, y_159, o0_155) _ _ _ ⟨(show (0 : Int) ≤ z_160.toInt ∧ z_160.toInt ≤ 16 from (rg_w b_z_160 (by decide) (by decide))), (show (0 : Int) ≤ y_158.toInt ∧ y_158.toInt ≤ 2147483647 from b_y_158), (show (-1 : Int) ≤ y_159.toInt ∧ y_159.toInt ≤ 16 from b_y_159), (show rg o0_155 12 0 15 from ha_156), hP, hD, hS, lv_sub hl [0, 1, 2, 4, 5, 6] rfl⟩ (show (16 - z_160.toInt).toNat < (16 - y_97.toInt).toNat by omega)
        ·
          refine lv_icmp_gt (tgt := 58) hx hb dX10_mostly_52 (by decide) (fun c_157 => ?_) (fun c_157 => ?_)
          ·
            have n_c_157 : (y_98.toInt : Int) < r_153.toInt := c_gt rfl rfl c_157
            have b_y_98 : (0 : Int) ≤ y_98.toInt ∧ y_98.toInt ≤ 2147483646 := r_lt1 b_y_98 (ti_rng r_153) n_c_157 (by decide)
            have b_r_153 : (1 : Int) ≤ r_153.toInt ∧ r_153.toInt ≤ 2147483647 := r_lt2 b_y_98 (ti_rng r_153) n_c_157 (by decide)
            refine lv_iload hx hb dX10_mostly_58 (lv_at hl 1 rfl) ?_
            refine lv_istore_n (lv' := [(3, .int y_97), (6, .int r_153), (5, .int y_97), (4, .int y_98), (0, .ref o0), (1, .int a1), (2, .int a2)]) hx hb dX10_mostly_60 rfl hl (by decide) rfl (fun ls hl => ?_)
            refine lv_iload hx hb dX10_mostly_61 (lv_at hl 1 rfl) ?_
            refine lv_istore (lv' := [(4, .int r_153), (3, .int y_97), (6, .int r_153), (5, .int y_97), (0, .ref o0), (1, .int a1), (2, .int a2)]) hx hb dX10_mostly_63 hl (by decide) rfl (fun ls hl => ?_)
            exact hj_65_159 (r_153, y_97) _ _ _ ⟨(show (0 : Int) ≤ r_153.toInt ∧ r_153.toInt ≤ 2147483647 from (rg_w b_r_153 (by decide) (by decide))), (show (-1 : Int) ≤ y_97.toInt ∧ y_97.toInt ≤ 16 from (rg_w b_y_97 (by decide) (by decide))), hP, hD, hS, lv_sub hl [0, 1, 2, 3, 4, 5, 6] rfl⟩
          ·
            have n_c_157 : (r_153.toInt : Int) ≤ y_98.toInt := c_ngt rfl rfl c_157
            refine lv_goto (tgt := 65) hx hb dX10_mostly_55 (by decide) ?_
            exact hj_65_159 (y_98, y_99) _ _ _ ⟨(show (0 : Int) ≤ y_98.toInt ∧ y_98.toInt ≤ 2147483647 from b_y_98), (show (-1 : Int) ≤ y_99.toInt ∧ y_99.toInt ≤ 16 from b_y_99), hP, hD, hS, lv_sub hl [2, 3, 0, 1, 4, 5, 6] rfl⟩
    ·
      have n_c_85 : (r_84.toInt : Int) = 0 := c_eq rfl (by decide) c_85
      have b_r_84 : (0 : Int) ≤ r_84.toInt ∧ r_84.toInt ≤ 0 := r_eq1 b_r_84 (by decide : (0 : Int) ≤ (0 : Int32).toInt ∧ (0 : Int32).toInt ≤ 0) n_c_85 (by decide)
      refine lv_bipush (v := (-2)) hx hb dX10_mostly_16 (by decide) ?_
      have hP9 := hP.sub (ws' := [(o0, .inr (8, [.int x_th, .ref mwo, .ref mim, .ref mhi, .ref mlu, .ref mtp, .int x_td, .ref mfv, .int x_sz, .int x_at, .int x_fr, .int x_to, .int x_va, .int x_fk, .int x_fp, .ref mfr, .ref mwt, .int x_wt, .int x_op, .int x_jo, .ref mfg, .ref mpl, .long x_dr, .ref mtm, .ref mfa, .ref mqu, .ref mmo, .ref mwy, .ref mwn, .ref mma, .ref mwi, .ref mnu, .ref mmv])), (mwo, .inl (c_wo, 1875, .inl w_wo)), (mlu, .inl (c_lu, 20000, .inl w_lu)), (mfg, .inl (c_fg, 12, .inl w_fg))]) [0, 1, 2, 3] rfl
      have hD9 := hD.sub (ws' := [(o0, .inr (8, [.int x_th, .ref mwo, .ref mim, .ref mhi, .ref mlu, .ref mtp, .int x_td, .ref mfv, .int x_sz, .int x_at, .int x_fr, .int x_to, .int x_va, .int x_fk, .int x_fp, .ref mfr, .ref mwt, .int x_wt, .int x_op, .int x_jo, .ref mfg, .ref mpl, .long x_dr, .ref mtm, .ref mfa, .ref mqu, .ref mmo, .ref mwy, .ref mwn, .ref mma, .ref mwi, .ref mnu, .ref mmv])), (mwo, .inl (c_wo, 1875, .inl w_wo)), (mlu, .inl (c_lu, 20000, .inl w_lu)), (mfg, .inl (c_fg, 12, .inl w_fg))]) [0, 1, 2, 3] (by decide) rfl
      have hK9 := hK.sub (tys' := [(c_wo, .int), (c_lu, .int), (c_fg, .int)]) [0, 1, 2] rfl
      exact W.iret (v := (-2)) hx hb hr (fun t ht hW => ⟨⟨(-2), (), rfl, (rg_w (by decide : (-2 : Int) ≤ ((-2) : Int32).toInt ∧ ((-2) : Int32).toInt ≤ -2) (by decide) (by decide)), w_fg, ha_mfg, by rw [ht]; exact hP9, va_K.moved hW.alike hK9, hD9⟩, hS.F ht⟩) hS.2.2 dX10_mostly_18
theorem dX10_isSame_0 : decode cX10_isSame 0 = .ok (.iconst 0, 1) := by decide +kernel
theorem dX10_isSame_1 : decode cX10_isSame 1 = .ok (.istore_n 1, 1) := by decide +kernel
theorem dX10_isSame_2 : decode cX10_isSame 2 = .ok (.iload_n 1, 1) := by decide +kernel
theorem dX10_isSame_3 : decode cX10_isSame 3 = .ok (.bipush 16, 2) := by decide +kernel
theorem dX10_isSame_5 : decode cX10_isSame 5 = .ok (.if_icmp .ge 59, 3) := by decide +kernel
theorem dX10_isSame_8 : decode cX10_isSame 8 = .ok (.iconst 0, 1) := by decide +kernel
theorem dX10_isSame_9 : decode cX10_isSame 9 = .ok (.istore_n 2, 1) := by decide +kernel
theorem dX10_isSame_10 : decode cX10_isSame 10 = .ok (.iconst 0, 1) := by decide +kernel
theorem dX10_isSame_11 : decode cX10_isSame 11 = .ok (.istore_n 3, 1) := by decide +kernel
theorem dX10_isSame_12 : decode cX10_isSame 12 = .ok (.iload_n 3, 1) := by decide +kernel
theorem dX10_isSame_13 : decode cX10_isSame 13 = .ok (.aload_n 0, 1) := by decide +kernel
theorem dX10_isSame_14 : decode cX10_isSame 14 = .ok (.getfield 9, 3) := by decide +kernel
theorem dX10_isSame_17 : decode cX10_isSame 17 = .ok (.iconst 0, 1) := by decide +kernel
theorem dX10_isSame_18 : decode cX10_isSame 18 = .ok (.iaload, 1) := by decide +kernel
theorem dX10_isSame_19 : decode cX10_isSame 19 = .ok (.if_icmp .ge 27, 3) := by decide +kernel
theorem dX10_isSame_22 : decode cX10_isSame 22 = .ok (.iload_n 2, 1) := by decide +kernel
theorem dX10_isSame_23 : decode cX10_isSame 23 = .ok (.aload_n 0, 1) := by decide +kernel
theorem dX10_isSame_24 : decode cX10_isSame 24 = .ok (.getfield 40, 3) := by decide +kernel
theorem dX10_isSame_27 : decode cX10_isSame 27 = .ok (.iload_n 3, 1) := by decide +kernel
theorem dX10_isSame_28 : decode cX10_isSame 28 = .ok (.iaload, 1) := by decide +kernel
theorem dX10_isSame_29 : decode cX10_isSame 29 = .ok (.iload_n 1, 1) := by decide +kernel
theorem dX10_isSame_30 : decode cX10_isSame 30 = .ok (.if_icmp .ne 7, 3) := by decide +kernel
theorem dX10_isSame_33 : decode cX10_isSame 33 = .ok (.iconst 1, 1) := by decide +kernel
theorem dX10_isSame_34 : decode cX10_isSame 34 = .ok (.goto 4, 3) := by decide +kernel
theorem dX10_isSame_37 : decode cX10_isSame 37 = .ok (.iconst 0, 1) := by decide +kernel
theorem dX10_isSame_38 : decode cX10_isSame 38 = .ok (.iadd, 1) := by decide +kernel
theorem dX10_isSame_39 : decode cX10_isSame 39 = .ok (.istore_n 2, 1) := by decide +kernel
theorem dX10_isSame_40 : decode cX10_isSame 40 = .ok (.iinc 3 1, 3) := by decide +kernel
theorem dX10_isSame_43 : decode cX10_isSame 43 = .ok (.goto (-31), 3) := by decide +kernel
theorem dX10_isSame_46 : decode cX10_isSame 46 = .ok (.iload_n 2, 1) := by decide +kernel
theorem dX10_isSame_47 : decode cX10_isSame 47 = .ok (.aload_n 0, 1) := by decide +kernel
theorem dX10_isSame_48 : decode cX10_isSame 48 = .ok (.getfield 46, 3) := by decide +kernel
theorem dX10_isSame_51 : decode cX10_isSame 51 = .ok (.iload_n 1, 1) := by decide +kernel
theorem dX10_isSame_52 : decode cX10_isSame 52 = .ok (.iaload, 1) := by decide +kernel
theorem dX10_isSame_53 : decode cX10_isSame 53 = .ok (.if_icmp .eq 5, 3) := by decide +kernel
theorem dX10_isSame_56 : decode cX10_isSame 56 = .ok (.iconst 0, 1) := by decide +kernel
theorem dX10_isSame_57 : decode cX10_isSame 57 = .ok (.ireturn, 1) := by decide +kernel
theorem dX10_isSame_58 : decode cX10_isSame 58 = .ok (.iinc 1 1, 3) := by decide +kernel
theorem dX10_isSame_61 : decode cX10_isSame 61 = .ok (.goto (-59), 3) := by decide +kernel
theorem dX10_isSame_64 : decode cX10_isSame 64 = .ok (.iconst 1, 1) := by decide +kernel
theorem dX10_isSame_65 : decode cX10_isSame 65 = .ok (.ireturn, 1) := by decide +kernel
theorem hd_yX10_isSame : yX10_isSame.cls = RX10 ∧ yX10_isSame.cls ≠ "java/lang/invoke/MethodHandle" ∧ yX10_isSame.cls ≠ "java/lang/invoke/VarHandle" ∧ (parseMethodDescriptor yX10_isSame.desc).map (fun d => d.parameters.length) = some 0 := by decide +kernel
def uX10_isSame : List Cond := List.cons (.code yX10_isSame cX10_isSame 4 (some .boolean)) (HAppend.hAppend ([.fieldLink RX10 9 "LuckyTicketModel" "world" "[I", .fieldLink RX10 40 "LuckyTicketModel" "figures" "[I", .fieldLink RX10 46 "LuckyTicketModel" "times" "[I"] : List Cond) wsX100)
theorem iX10_isSame_X10 : ∀ w ∈ wsX100, w ∈ uX10_isSame := fun _ h => (List.mem_cons_of_mem _ (List.mem_append_right _ h))
theorem guX10_isSame : GU uX10_isSame := gu_cons (gu_app (by decide +kernel) gws_X10)
set_option maxHeartbeats 4000000 in
set_option maxRecDepth 100000 in
theorem kX10_isSame (l : Launch) (dC : Nat → ClassId) (dI : Nat → Nat → Nat) (o0 : Nat) (x_th : Int32) (mwo : Nat) (mim : Nat) (mhi : Nat) (mlu : Nat) (mtp : Nat) (x_td : Int32) (mfv : Nat) (x_sz : Int32) (x_at : Int32) (x_fr : Int32) (x_to : Int32) (x_va : Int32) (x_fk : Int32) (x_fp : Int32) (mfr : Nat) (mwt : Nat) (x_wt : Int32) (x_op : Int32) (x_jo : Int32) (mfg : Nat) (mpl : Nat) (x_dr : Int64) (mtm : Nat) (mfa : Nat) (mqu : Nat) (mmo : Nat) (mwy : Nat) (mwn : Nat) (mma : Nat) (mwi : Nat) (mnu : Nat) (mmv : Nat) (c_wo : ClassId) (c_fg : ClassId) (c_tm : ClassId) (w_wo : Nat → Int32) (w_fg : Nat → Int32) (w_tm : Nat → Int32) (ln : Int32) (bs : Int32) (tk : Int32) (lw : Int32) (li : Int32) (b_ln : (0 : Int) ≤ ln.toInt ∧ ln.toInt ≤ 12) (b_bs : (0 : Int) ≤ bs.toInt ∧ bs.toInt ≤ 16) (b_tk : (0 : Int) ≤ tk.toInt ∧ tk.toInt ≤ 20000) (b_lw : (0 : Int) ≤ lw.toInt ∧ lw.toInt ≤ 9) (ha_mfg : rg w_fg 12 0 15) (hw0 : w_wo 0 = ln) (hw1 : w_wo 1 = bs) (hw2 : w_wo 2 = tk) (hw3 : w_wo 3 = lw) (hw4 : w_wo 4 = li) (hwz : (ln.toInt = 0 ∧ bs.toInt = 0 ∧ tk.toInt = 0 ∧ lw.toInt = 0) ∨ (1 ≤ ln.toInt ∧ 2 ≤ bs.toInt ∧ 1 ≤ tk.toInt)) : Met l yX10_isSame uX10_isSame ({ frames := 0, cells := 0, slots := 0, locals := 0 }) (va_Pc [.ref o0] (pw (dC, dI) vwCl [(o0, .inr (8, [.int x_th, .ref mwo, .ref mim, .ref mhi, .ref mlu, .ref mtp, .int x_td, .ref mfv, .int x_sz, .int x_at, .int x_fr, .int x_to, .int x_va, .int x_fk, .int x_fp, .ref mfr, .ref mwt, .int x_wt, .int x_op, .int x_jo, .ref mfg, .ref mpl, .long x_dr, .ref mtm, .ref mfa, .ref mqu, .ref mmo, .ref mwy, .ref mwn, .ref mma, .ref mwi, .ref mnu, .ref mmv])), (mwo, .inl (c_wo, 1875, .inl w_wo)), (mfg, .inl (c_fg, 12, .inl w_fg)), (mtm, .inl (c_tm, 16, .inl w_tm))] [(c_wo, .int), (c_fg, .int), (c_tm, .int)])) (vp_Si (fun r => ((0 : Int) ≤ r.toInt ∧ r.toInt ≤ 1))) 0 0 (fun _ => False) := by
  refine Met.ofW (cc := cX10_isSame) (maxL := 4) (ret := (some .boolean)) pn_X10 rfl ?_
  intro p e s m args below meth c s₁ B hml hv
  obtain ⟨rfl, hP, hK, hN⟩ := hv
  have hx := B.exec
  have hb := B.bytes
  have hr := B.returns
  have hts := atoms_spec (ws := uX10_isSame) B.pre
  have hown : s.vm.findClass RX10 = some m.cls := hown_of B.named rfl
  have hlocks := B.notSynchronized
  have hl := lv_entry ([.ref o0]) (n := 4) (Nat.le_of_ble_eq_true rfl)
  rw [lg_entry_eq]
  generalize (lg_sl ([.ref o0]) ++ List.replicate (4 - (lg_sl ([.ref o0])).length) Slot.unset).toArray = ls at hl ⊢
  have hl : lv_has ls 4 [(0, .ref o0)] := hl
  refine lv_iconst (v := 0) hx hb dX10_isSame_0 (by decide) ?_
  refine lv_istore_n (lv' := [(1, .int 0), (0, .ref o0)]) hx hb dX10_isSame_1 rfl hl (by decide) rfl (fun ls hl => ?_)
  refine loopP (σ := Int32) (fun v => (16 - v.toInt).toNat) (fun v ls => ((0 : Int) ≤ v.toInt ∧ v.toInt ≤ 16) ∧ lv_has ls 4 [(1, .int v), (0, .ref o0)]) (fun v ls hI ih_2_2840 => ?_) (0 : Int32) ⟨(show (0 : Int) ≤ (0 : Int32).toInt ∧ (0 : Int32).toInt ≤ 16 from (rg_w (by decide : (0 : Int) ≤ (0 : Int32).toInt ∧ (0 : Int32).toInt ≤ 0) (by decide) (by decide))), lv_sub hl [0, 1] rfl⟩
  obtain ⟨y_1808, rfl⟩ : ∃ z, z = v := ⟨_, rfl⟩
  obtain ⟨b_y_1808, hl⟩ := hI
  have b_y_1808 : (0 : Int) ≤ y_1808.toInt ∧ y_1808.toInt ≤ 16 := b_y_1808
  have hl : lv_has ls 4 [(1, .int y_1808), (0, .ref o0)] := hl
  refine lv_iload_n hx hb dX10_isSame_2 rfl (lv_at hl 0 rfl) ?_
  refine lv_bipush (v := 16) hx hb dX10_isSame_3 (by decide) ?_
  refine lv_icmp_ge (tgt := 64) hx hb dX10_isSame_5 (by decide) (fun c_2841 => ?_) (fun c_2841 => ?_)
  ·
    have n_c_2841 : (16 : Int) ≤ y_1808.toInt := c_ge rfl (by decide) c_2841
    have b_y_1808 : (16 : Int) ≤ y_1808.toInt ∧ y_1808.toInt ≤ 16 := r_le2 (by decide : (16 : Int) ≤ (16 : Int32).toInt ∧ (16 : Int32).toInt ≤ 16) b_y_1808 n_c_2841 (by decide)
    refine lv_iconst (v := 1) hx hb dX10_isSame_64 (by decide) ?_
    exact W.zret (v := 1) hx hb hr rfl (fun t ht hW => ⟨1, rfl, (rg_w (by decide : (1 : Int) ≤ (1 : Int32).toInt ∧ (1 : Int32).toInt ≤ 1) (by decide) (by decide)), ht⟩) t_nil dX10_isSame_65
  ·
    have n_c_2841 : (y_1808.toInt : Int) < 16 := c_nge rfl (by decide) c_2841
    have b_y_1808 : (0 : Int) ≤ y_1808.toInt ∧ y_1808.toInt ≤ 15 := r_lt1 b_y_1808 (by decide : (16 : Int) ≤ (16 : Int32).toInt ∧ (16 : Int32).toInt ≤ 16) n_c_2841 (by decide)
    refine lv_iconst (v := 0) hx hb dX10_isSame_8 (by decide) ?_
    refine lv_istore_n (lv' := [(2, .int 0), (1, .int y_1808), (0, .ref o0)]) hx hb dX10_isSame_9 rfl hl (by decide) rfl (fun ls hl => ?_)
    refine lv_iconst (v := 0) hx hb dX10_isSame_10 (by decide) ?_
    refine lv_istore_n (lv' := [(3, .int 0), (2, .int 0), (1, .int y_1808), (0, .ref o0)]) hx hb dX10_isSame_11 rfl hl (by decide) rfl (fun ls hl => ?_)
    refine loopP (σ := Int32 × Int32) (fun v => (12 - v.1.toInt).toNat) (fun v ls => ((0 : Int) ≤ v.1.toInt ∧ v.1.toInt ≤ 12) ∧ lv_has ls 4 [(3, .int v.1), (2, .int v.2), (1, .int y_1808), (0, .ref o0)]) (fun v ls hI ih_12_3083 => ?_) ((0 : Int32), (0 : Int32)) ⟨(show (0 : Int) ≤ (0 : Int32).toInt ∧ (0 : Int32).toInt ≤ 12 from (rg_w (by decide : (0 : Int) ≤ (0 : Int32).toInt ∧ (0 : Int32).toInt ≤ 0) (by decide) (by decide))), lv_sub hl [0, 1, 2, 3] rfl⟩
    obtain ⟨y_2857, y_2858⟩ := v
    obtain ⟨b_y_2857, hl⟩ := hI
    have b_y_2857 : (0 : Int) ≤ y_2857.toInt ∧ y_2857.toInt ≤ 12 := b_y_2857
    have hl : lv_has ls 4 [(3, .int y_2857), (2, .int y_2858), (1, .int y_1808), (0, .ref o0)] := hl
    refine lv_iload_n hx hb dX10_isSame_12 rfl (lv_at hl 0 rfl) ?_
    refine lv_aload_n hx hb dX10_isSame_13 rfl (lv_at hl 3 rfl) ?_
    refine va_get (D := (dC, dI)) (ci := 8) (v := .ref mwo) (C := RX10) (T := TX10) (N := 33) hx hb hts iX10_isSame_X10 hown hK hP 0 rfl rfl 1 (by decide) (hts (.fieldLink RX10 9 "LuckyTicketModel" "world" "[I") (List.mem_of_getElem? (i := 1) rfl)) (fun _ h9 => h9) rfl dX10_isSame_14 ?_
    refine lv_iconst (v := 0) hx hb dX10_isSame_17 (by decide) ?_
    refine va_iald hx hb hK hP 1 0 rfl rfl (vp_in_b (by decide : (0 : Int) ≤ (0 : Int32).toInt ∧ (0 : Int32).toInt ≤ 0) (by decide) (by decide)) dX10_isSame_18 ?_
    refine lv_topi (fun z_3084 e_z_3084 => ?_)
    obtain rfl : ln = z_3084 := (e_z_3084.trans hw0).symm
    refine lv_icmp_ge (tgt := 46) hx hb dX10_isSame_19 (by decide) (fun c_3085 => ?_) (fun c_3085 => ?_)
    ·
      have n_c_3085 : (ln.toInt : Int) ≤ y_2857.toInt := c_ge rfl rfl c_3085
      refine lv_iload_n hx hb dX10_isSame_46 rfl (lv_at hl 1 rfl) ?_
      refine lv_aload_n hx hb dX10_isSame_47 rfl (lv_at hl 3 rfl) ?_
      refine va_get (D := (dC, dI)) (ci := 8) (v := .ref mtm) (C := RX10) (T := TX10) (N := 33) hx hb hts iX10_isSame_X10 hown hK hP 0 rfl rfl 23 (by decide) (hts (.fieldLink RX10 46 "LuckyTicketModel" "times" "[I") (List.mem_of_getElem? (i := 3) rfl)) (fun _ h9 => h9) rfl dX10_isSame_48 ?_
      refine lv_iload_n hx hb dX10_isSame_51 rfl (lv_at hl 2 rfl) ?_
      refine va_iald hx hb hK hP 3 2 rfl rfl (vp_in_b b_y_1808 (by decide) (by decide)) dX10_isSame_52 ?_
      refine lv_topi (fun z_3091 e_z_3091 => ?_)
      refine lv_icmp_eq (tgt := 58) hx hb dX10_isSame_53 (by decide) (fun c_3092 => ?_) (fun c_3092 => ?_)
      ·
        have n_c_3092 : (y_2858.toInt : Int) = z_3091.toInt := c_eq rfl rfl c_3092
        obtain ⟨z_3093, e_z_3093⟩ : ∃ y : Int32, y = y_1808 + 1 := ⟨_, rfl⟩
        refine lv_iinc (v := z_3093) (lv' := [(1, .int z_3093), (3, .int y_2857), (2, .int y_2858), (0, .ref o0)]) hx hb dX10_isSame_58 hl (k := 2) rfl (by rw [e_z_3093]; rfl) (by decide) rfl (fun ls hl => ?_)
        obtain ⟨q_z_3093, b_z_3093⟩ := ti_add (lo := 1) (hi := 16) e_z_3093 rfl (by decide : (1 : Int32).toInt = 1) b_y_1808 (by decide : (1 : Int) ≤ (1 : Int32).toInt ∧ (1 : Int32).toInt ≤ 1) (by decide)
        refine lv_goto (tgt := 2) hx hb dX10_isSame_61 (by decide) ?_
        exact ih_2_2840 z_3093 _ ⟨(show (0 : Int) ≤ z_3093.toInt ∧ z_3093.toInt ≤ 16 from (rg_w b_z_3093 (by decide) (by decide))), lv_sub hl [0, 3] rfl⟩ (show (16 - z_3093.toInt).toNat < (16 - y_1808.toInt).toNat by omega)
      ·
        have n_c_3092 : (y_2858.toInt : Int) ≠ z_3091.toInt := c_ne rfl rfl c_3092
        refine lv_iconst (v := 0) hx hb dX10_isSame_56 (by decide) ?_
        exact W.zret (v := 0) hx hb hr rfl (fun t ht hW => ⟨0, rfl, (rg_w (by decide : (0 : Int) ≤ (0 : Int32).toInt ∧ (0 : Int32).toInt ≤ 0) (by decide) (by decide)), ht⟩) t_nil dX10_isSame_57
    ·
      have n_c_3085 : (y_2857.toInt : Int) < ln.toInt := c_nge rfl rfl c_3085
      have b_y_2857 : (0 : Int) ≤ y_2857.toInt ∧ y_2857.toInt ≤ 11 := r_lt1 b_y_2857 b_ln n_c_3085 (by decide)
      have b_ln : (1 : Int) ≤ ln.toInt ∧ ln.toInt ≤ 12 := r_lt2 b_y_2857 b_ln n_c_3085 (by decide)
      refine lv_iload_n hx hb dX10_isSame_22 rfl (lv_at hl 1 rfl) ?_
      refine lv_aload_n hx hb dX10_isSame_23 rfl (lv_at hl 3 rfl) ?_
      refine va_get (D := (dC, dI)) (ci := 8) (v := .ref mfg) (C := RX10) (T := TX10) (N := 33) hx hb hts iX10_isSame_X10 hown hK hP 0 rfl rfl 20 (by decide) (hts (.fieldLink RX10 40 "LuckyTicketModel" "figures" "[I") (List.mem_of_getElem? (i := 2) rfl)) (fun _ h9 => h9) rfl dX10_isSame_24 ?_
      refine lv_iload_n hx hb dX10_isSame_27 rfl (lv_at hl 0 rfl) ?_
      refine va_iald hx hb hK hP 2 1 rfl rfl (vp_in_b b_y_2857 (by decide) (by decide)) dX10_isSame_28 ?_
      refine lv_topi (fun z_3094 e_z_3094 => ?_)
      have b_z_3094 : (0 : Int) ≤ z_3094.toInt ∧ z_3094.toInt ≤ 15 := rg_at ha_mfg (vp_in_b b_y_2857 (by decide) (by decide)) e_z_3094
      refine lv_iload_n hx hb dX10_isSame_29 rfl (lv_at hl 2 rfl) ?_
      refine cutP (σ := Int32) (pc2 := 38) (st2 := fun v => [.int v, .int y_2858]) (cells2 := 0) (slots2 := 0) (fun v ls => ((0 : Int) ≤ v.toInt ∧ v.toInt ≤ 1) ∧ lv_has ls 4 [(3, .int y_2857), (2, .int y_2858), (1, .int y_1808), (0, .ref o0)]) (fun v ls hI => ?_) (fun hj_38_3096 => ?_)
      ·
        obtain ⟨y_3096, rfl⟩ : ∃ z, z = v := ⟨_, rfl⟩
        obtain ⟨b_y_3096, hl⟩ := hI
        have b_y_3096 : (0 : Int) ≤ y_3096.toInt ∧ y_3096.toInt ≤ 1 := b_y_3096
        have hl : lv_has ls 4 [(3, .int y_2857), (2, .int y_2858), (1, .int y_1808), (0, .ref o0)] := hl
        refine lv_iadd hx hb dX10_isSame_38 ?_
        refine lv_topi (fun z_3097 e_z_3097 => ?_)
        refine lv_istore_n (lv' := [(2, .int z_3097), (3, .int y_2857), (1, .int y_1808), (0, .ref o0)]) hx hb dX10_isSame_39 rfl hl (by decide) rfl (fun ls hl => ?_)
        obtain ⟨z_3098, e_z_3098⟩ : ∃ y : Int32, y = y_2857 + 1 := ⟨_, rfl⟩
        refine lv_iinc (v := z_3098) (lv' := [(3, .int z_3098), (2, .int z_3097), (1, .int y_1808), (0, .ref o0)]) hx hb dX10_isSame_40 hl (k := 1) rfl (by rw [e_z_3098]; rfl) (by decide) rfl (fun ls hl => ?_)
        obtain ⟨q_z_3098, b_z_3098⟩ := ti_add (lo := 1) (hi := 12) e_z_3098 rfl (by decide : (1 : Int32).toInt = 1) b_y_2857 (by decide : (1 : Int) ≤ (1 : Int32).toInt ∧ (1 : Int32).toInt ≤ 1) (by decide)
        refine lv_goto (tgt := 12) hx hb dX10_isSame_43 (by decide) ?_
        exact ih_12_3083 (z_3098, z_3097) _ ⟨(show (0 : Int) ≤ z_3098.toInt ∧ z_3098.toInt ≤ 12 from (rg_w b_z_3098 (by decide) (by decide))), lv_sub hl [0, 1, 2, 3] rfl⟩ (show (12 - z_3098.toInt).toNat < (12 - y_2857.toInt).toNat by omega)
      ·
        refine lv_icmp_ne (tgt := 37) hx hb dX10_isSame_30 (by decide) (fun c_3095 => ?_) (fun c_3095 => ?_)
        ·
          have n_c_3095 : (z_3094.toInt : Int) ≠ y_1808.toInt := c_ne rfl rfl c_3095
          refine lv_iconst (v := 0) hx hb dX10_isSame_37 (by decide) ?_
          exact hj_38_3096 (0 : Int32) _ ⟨(show (0 : Int) ≤ (0 : Int32).toInt ∧ (0 : Int32).toInt ≤ 1 from (rg_w (by decide : (0 : Int) ≤ (0 : Int32).toInt ∧ (0 : Int32).toInt ≤ 0) (by decide) (by decide))), lv_sub hl [0, 1, 2, 3] rfl⟩
        ·
          have n_c_3095 : (z_3094.toInt : Int) = y_1808.toInt := c_eq rfl rfl c_3095
          refine lv_iconst (v := 1) hx hb dX10_isSame_33 (by decide) ?_
          refine lv_goto (tgt := 38) hx hb dX10_isSame_34 (by decide) ?_
          exact hj_38_3096 (1 : Int32) _ ⟨(show (0 : Int) ≤ (1 : Int32).toInt ∧ (1 : Int32).toInt ≤ 1 from (rg_w (by decide : (1 : Int) ≤ (1 : Int32).toInt ∧ (1 : Int32).toInt ≤ 1) (by decide) (by decide))), lv_sub hl [0, 1, 2, 3] rfl⟩
theorem dX10_same_0 : decode cX10_same 0 = .ok (.aload_n 0, 1) := by decide +kernel
theorem dX10_same_1 : decode cX10_same 1 = .ok (.iload_n 1, 1) := by decide +kernel
theorem dX10_same_2 : decode cX10_same 2 = .ok (.iload_n 2, 1) := by decide +kernel
theorem dX10_same_3 : decode cX10_same 3 = .ok (.invokevirtual 313, 3) := by decide +kernel
theorem dX10_same_6 : decode cX10_same 6 = .ok (.ifCond .eq 15, 3) := by decide +kernel
theorem dX10_same_9 : decode cX10_same 9 = .ok (.iload_n 3, 1) := by decide +kernel
theorem dX10_same_10 : decode cX10_same 10 = .ok (.i2l, 1) := by decide +kernel
theorem dX10_same_11 : decode cX10_same 11 = .ok (.lconst 0, 1) := by decide +kernel
theorem dX10_same_12 : decode cX10_same 12 = .ok (.ldc2_w 80, 3) := by decide +kernel
theorem dX10_same_15 : decode cX10_same 15 = .ok (.invokestatic 82, 3) := by decide +kernel
theorem dX10_same_18 : decode cX10_same 18 = .ok (.ifCond .ne 6, 3) := by decide +kernel
theorem dX10_same_21 : decode cX10_same 21 = .ok (.bipush (-2), 2) := by decide +kernel
theorem dX10_same_23 : decode cX10_same 23 = .ok (.ireturn, 1) := by decide +kernel
theorem dX10_same_24 : decode cX10_same 24 = .ok (.aload_n 0, 1) := by decide +kernel
theorem dX10_same_25 : decode cX10_same 25 = .ok (.iload_n 2, 1) := by decide +kernel
theorem dX10_same_26 : decode cX10_same 26 = .ok (.invokevirtual 302, 3) := by decide +kernel
theorem dX10_same_29 : decode cX10_same 29 = .ok (.iconst 0, 1) := by decide +kernel
theorem dX10_same_30 : decode cX10_same 30 = .ok (.istore 4, 2) := by decide +kernel
theorem dX10_same_32 : decode cX10_same 32 = .ok (.iload 4, 2) := by decide +kernel
theorem dX10_same_34 : decode cX10_same 34 = .ok (.bipush 16, 2) := by decide +kernel
theorem dX10_same_36 : decode cX10_same 36 = .ok (.if_icmp .ge 17, 3) := by decide +kernel
theorem dX10_same_39 : decode cX10_same 39 = .ok (.aload_n 0, 1) := by decide +kernel
theorem dX10_same_40 : decode cX10_same 40 = .ok (.getfield 46, 3) := by decide +kernel
theorem dX10_same_43 : decode cX10_same 43 = .ok (.iload 4, 2) := by decide +kernel
theorem dX10_same_45 : decode cX10_same 45 = .ok (.iconst 0, 1) := by decide +kernel
theorem dX10_same_46 : decode cX10_same 46 = .ok (.iastore, 1) := by decide +kernel
theorem dX10_same_47 : decode cX10_same 47 = .ok (.iinc 4 1, 3) := by decide +kernel
theorem dX10_same_50 : decode cX10_same 50 = .ok (.goto (-18), 3) := by decide +kernel
theorem dX10_same_53 : decode cX10_same 53 = .ok (.iconst 0, 1) := by decide +kernel
theorem dX10_same_54 : decode cX10_same 54 = .ok (.istore 4, 2) := by decide +kernel
theorem dX10_same_56 : decode cX10_same 56 = .ok (.iload 4, 2) := by decide +kernel
theorem dX10_same_58 : decode cX10_same 58 = .ok (.aload_n 0, 1) := by decide +kernel
theorem dX10_same_59 : decode cX10_same 59 = .ok (.getfield 9, 3) := by decide +kernel
theorem dX10_same_62 : decode cX10_same 62 = .ok (.iconst 0, 1) := by decide +kernel
theorem dX10_same_63 : decode cX10_same 63 = .ok (.iaload, 1) := by decide +kernel
theorem dX10_same_64 : decode cX10_same 64 = .ok (.if_icmp .ge 25, 3) := by decide +kernel
theorem dX10_same_67 : decode cX10_same 67 = .ok (.aload_n 0, 1) := by decide +kernel
theorem dX10_same_68 : decode cX10_same 68 = .ok (.getfield 46, 3) := by decide +kernel
theorem dX10_same_71 : decode cX10_same 71 = .ok (.aload_n 0, 1) := by decide +kernel
theorem dX10_same_72 : decode cX10_same 72 = .ok (.getfield 40, 3) := by decide +kernel
theorem dX10_same_75 : decode cX10_same 75 = .ok (.iload 4, 2) := by decide +kernel
theorem dX10_same_77 : decode cX10_same 77 = .ok (.iaload, 1) := by decide +kernel
theorem dX10_same_78 : decode cX10_same 78 = .ok (.dup2, 1) := by decide +kernel
theorem dX10_same_79 : decode cX10_same 79 = .ok (.iaload, 1) := by decide +kernel
theorem dX10_same_80 : decode cX10_same 80 = .ok (.iconst 1, 1) := by decide +kernel
theorem dX10_same_81 : decode cX10_same 81 = .ok (.iadd, 1) := by decide +kernel
theorem dX10_same_82 : decode cX10_same 82 = .ok (.iastore, 1) := by decide +kernel
theorem dX10_same_83 : decode cX10_same 83 = .ok (.iinc 4 1, 3) := by decide +kernel
theorem dX10_same_86 : decode cX10_same 86 = .ok (.goto (-30), 3) := by decide +kernel
theorem dX10_same_89 : decode cX10_same 89 = .ok (.iconst 0, 1) := by decide +kernel
theorem dX10_same_90 : decode cX10_same 90 = .ok (.istore 4, 2) := by decide +kernel
theorem dX10_same_92 : decode cX10_same 92 = .ok (.iconst 0, 1) := by decide +kernel
theorem dX10_same_93 : decode cX10_same 93 = .ok (.istore 5, 2) := by decide +kernel
theorem dX10_same_95 : decode cX10_same 95 = .ok (.iconst (-1), 1) := by decide +kernel
theorem dX10_same_96 : decode cX10_same 96 = .ok (.istore 6, 2) := by decide +kernel
theorem dX10_same_98 : decode cX10_same 98 = .ok (.iconst 0, 1) := by decide +kernel
theorem dX10_same_99 : decode cX10_same 99 = .ok (.istore 7, 2) := by decide +kernel
theorem dX10_same_101 : decode cX10_same 101 = .ok (.iload 7, 2) := by decide +kernel
theorem dX10_same_103 : decode cX10_same 103 = .ok (.aload_n 0, 1) := by decide +kernel
theorem dX10_same_104 : decode cX10_same 104 = .ok (.getfield 9, 3) := by decide +kernel
theorem dX10_same_107 : decode cX10_same 107 = .ok (.iconst 2, 1) := by decide +kernel
theorem dX10_same_108 : decode cX10_same 108 = .ok (.iaload, 1) := by decide +kernel
theorem dX10_same_109 : decode cX10_same 109 = .ok (.if_icmp .ge 73, 3) := by decide +kernel
theorem dX10_same_112 : decode cX10_same 112 = .ok (.aload_n 0, 1) := by decide +kernel
theorem dX10_same_113 : decode cX10_same 113 = .ok (.iload 7, 2) := by decide +kernel
theorem dX10_same_115 : decode cX10_same 115 = .ok (.invokevirtual 302, 3) := by decide +kernel
theorem dX10_same_118 : decode cX10_same 118 = .ok (.aload_n 0, 1) := by decide +kernel
theorem dX10_same_119 : decode cX10_same 119 = .ok (.invokevirtual 433, 3) := by decide +kernel
theorem dX10_same_122 : decode cX10_same 122 = .ok (.ifCond .ne 6, 3) := by decide +kernel
theorem dX10_same_125 : decode cX10_same 125 = .ok (.goto 51, 3) := by decide +kernel
theorem dX10_same_128 : decode cX10_same 128 = .ok (.iinc 4 1, 3) := by decide +kernel
theorem dX10_same_131 : decode cX10_same 131 = .ok (.iload 5, 2) := by decide +kernel
theorem dX10_same_133 : decode cX10_same 133 = .ok (.aload_n 0, 1) := by decide +kernel
theorem dX10_same_134 : decode cX10_same 134 = .ok (.iload_n 1, 1) := by decide +kernel
theorem dX10_same_135 : decode cX10_same 135 = .ok (.iload 7, 2) := by decide +kernel
theorem dX10_same_137 : decode cX10_same 137 = .ok (.invokevirtual 316, 3) := by decide +kernel
theorem dX10_same_140 : decode cX10_same 140 = .ok (.ifCond .eq 7, 3) := by decide +kernel
theorem dX10_same_143 : decode cX10_same 143 = .ok (.iconst 1, 1) := by decide +kernel
theorem dX10_same_144 : decode cX10_same 144 = .ok (.goto 4, 3) := by decide +kernel
theorem dX10_same_147 : decode cX10_same 147 = .ok (.iconst 0, 1) := by decide +kernel
theorem dX10_same_148 : decode cX10_same 148 = .ok (.iadd, 1) := by decide +kernel
theorem dX10_same_149 : decode cX10_same 149 = .ok (.istore 5, 2) := by decide +kernel
theorem dX10_same_151 : decode cX10_same 151 = .ok (.iload 6, 2) := by decide +kernel
theorem dX10_same_153 : decode cX10_same 153 = .ok (.iconst (-1), 1) := by decide +kernel
theorem dX10_same_154 : decode cX10_same 154 = .ok (.if_icmp .ne 18, 3) := by decide +kernel
theorem dX10_same_157 : decode cX10_same 157 = .ok (.aload_n 0, 1) := by decide +kernel
theorem dX10_same_158 : decode cX10_same 158 = .ok (.iload_n 1, 1) := by decide +kernel
theorem dX10_same_159 : decode cX10_same 159 = .ok (.iload 7, 2) := by decide +kernel
theorem dX10_same_161 : decode cX10_same 161 = .ok (.invokevirtual 316, 3) := by decide +kernel
theorem dX10_same_164 : decode cX10_same 164 = .ok (.ifCond .eq 8, 3) := by decide +kernel
theorem dX10_same_167 : decode cX10_same 167 = .ok (.iload 7, 2) := by decide +kernel
theorem dX10_same_169 : decode cX10_same 169 = .ok (.goto 5, 3) := by decide +kernel
theorem dX10_same_172 : decode cX10_same 172 = .ok (.iload 6, 2) := by decide +kernel
theorem dX10_same_174 : decode cX10_same 174 = .ok (.istore 6, 2) := by decide +kernel
theorem dX10_same_176 : decode cX10_same 176 = .ok (.iinc 7 1, 3) := by decide +kernel
theorem dX10_same_179 : decode cX10_same 179 = .ok (.goto (-78), 3) := by decide +kernel
theorem dX10_same_182 : decode cX10_same 182 = .ok (.iload_n 3, 1) := by decide +kernel
theorem dX10_same_183 : decode cX10_same 183 = .ok (.ifCond .ne 8, 3) := by decide +kernel
theorem dX10_same_186 : decode cX10_same 186 = .ok (.iload 4, 2) := by decide +kernel
theorem dX10_same_188 : decode cX10_same 188 = .ok (.goto 15, 3) := by decide +kernel
theorem dX10_same_191 : decode cX10_same 191 = .ok (.iload_n 3, 1) := by decide +kernel
theorem dX10_same_192 : decode cX10_same 192 = .ok (.iconst 1, 1) := by decide +kernel
theorem dX10_same_193 : decode cX10_same 193 = .ok (.if_icmp .ne 8, 3) := by decide +kernel
theorem dX10_same_196 : decode cX10_same 196 = .ok (.iload 5, 2) := by decide +kernel
theorem dX10_same_198 : decode cX10_same 198 = .ok (.goto 5, 3) := by decide +kernel
theorem dX10_same_201 : decode cX10_same 201 = .ok (.iload 6, 2) := by decide +kernel
theorem dX10_same_203 : decode cX10_same 203 = .ok (.ireturn, 1) := by decide +kernel
theorem hd_yX10_same : yX10_same.cls = RX10 ∧ yX10_same.cls ≠ "java/lang/invoke/MethodHandle" ∧ yX10_same.cls ≠ "java/lang/invoke/VarHandle" ∧ (parseMethodDescriptor yX10_same.desc).map (fun d => d.parameters.length) = some 3 := by decide +kernel
def uX10_same : List Cond := List.cons (.code yX10_same cX10_same 8 (some .int)) (HAppend.hAppend ([.methodLink RX10 313 yX10_isBoth, .instanceMethod yX10_isBoth, .selects RX10 yX10_isBoth yX10_isBoth, .initialized RX10, .constantLong RX10 80 (2), .methodLink RX10 82 yX10_in, .static yX10_in, .methodLink RX10 302 yX10_fillFigures, .instanceMethod yX10_fillFigures, .selects RX10 yX10_fillFigures yX10_fillFigures, .fieldLink RX10 46 "LuckyTicketModel" "times" "[I", .fieldLink RX10 9 "LuckyTicketModel" "world" "[I", .fieldLink RX10 40 "LuckyTicketModel" "figures" "[I", .methodLink RX10 433 yX10_isSame, .instanceMethod yX10_isSame, .selects RX10 yX10_isSame yX10_isSame, .methodLink RX10 316 yX10_isLucky, .instanceMethod yX10_isLucky, .selects RX10 yX10_isLucky yX10_isLucky] : List Cond) (HAppend.hAppend uX10_isBoth (HAppend.hAppend uX10_in (HAppend.hAppend uX10_fillFigures (HAppend.hAppend uX10_isSame (HAppend.hAppend uX10_isLucky wsX100))))))
theorem iX10_same_X10 : ∀ w ∈ wsX100, w ∈ uX10_same := fun _ h => (List.mem_cons_of_mem _ (List.mem_append_right _ (List.mem_append_right _ (List.mem_append_right _ (List.mem_append_right _ (List.mem_append_right _ (List.mem_append_right _ h)))))))
theorem guX10_same : GU uX10_same := gu_cons (gu_app (by decide +kernel) (gu_ap guX10_isBoth (gu_ap guX10_in (gu_ap guX10_fillFigures (gu_ap guX10_isSame (gu_ap guX10_isLucky gws_X10))))))
theorem gX10_same__X10_isBoth_V313 : GoodIn uX10_same (wsV RX10 313 RX10 yX10_isBoth uX10_isBoth) := gin_V (List.mem_of_getElem? (i := 1) rfl) (List.mem_of_getElem? (i := 2) rfl) (List.mem_of_getElem? (i := 3) rfl) (List.mem_of_getElem? (i := 4) rfl) (fun _ h => (List.mem_cons_of_mem _ (List.mem_append_right _ (List.mem_append_left _ h)))) guX10_isBoth
theorem gX10_same__X10_in_S82 : GoodIn uX10_same (va_wsS RX10 82 yX10_in uX10_in) := gin_S (List.mem_of_getElem? (i := 6) rfl) (List.mem_of_getElem? (i := 7) rfl) (List.mem_of_getElem? (i := 4) rfl) (fun _ h => (List.mem_cons_of_mem _ (List.mem_append_right _ (List.mem_append_right _ (List.mem_append_left _ h))))) guX10_in
theorem gX10_same__X10_fillFigures_V302 : GoodIn uX10_same (wsV RX10 302 RX10 yX10_fillFigures uX10_fillFigures) := gin_V (List.mem_of_getElem? (i := 8) rfl) (List.mem_of_getElem? (i := 9) rfl) (List.mem_of_getElem? (i := 10) rfl) (List.mem_of_getElem? (i := 4) rfl) (fun _ h => (List.mem_cons_of_mem _ (List.mem_append_right _ (List.mem_append_right _ (List.mem_append_right _ (List.mem_append_left _ h)))))) guX10_fillFigures
theorem gX10_same__X10_isSame_V433 : GoodIn uX10_same (wsV RX10 433 RX10 yX10_isSame uX10_isSame) := gin_V (List.mem_of_getElem? (i := 14) rfl) (List.mem_of_getElem? (i := 15) rfl) (List.mem_of_getElem? (i := 16) rfl) (List.mem_of_getElem? (i := 4) rfl) (fun _ h => (List.mem_cons_of_mem _ (List.mem_append_right _ (List.mem_append_right _ (List.mem_append_right _ (List.mem_append_right _ (List.mem_append_left _ h))))))) guX10_isSame
theorem gX10_same__X10_isLucky_V316 : GoodIn uX10_same (wsV RX10 316 RX10 yX10_isLucky uX10_isLucky) := gin_V (List.mem_of_getElem? (i := 17) rfl) (List.mem_of_getElem? (i := 18) rfl) (List.mem_of_getElem? (i := 19) rfl) (List.mem_of_getElem? (i := 4) rfl) (fun _ h => (List.mem_cons_of_mem _ (List.mem_append_right _ (List.mem_append_right _ (List.mem_append_right _ (List.mem_append_right _ (List.mem_append_right _ (List.mem_append_left _ h)))))))) guX10_isLucky
set_option maxHeartbeats 4000000 in
set_option maxRecDepth 100000 in
theorem kX10_same (l : Launch) (dC : Nat → ClassId) (dI : Nat → Nat → Nat) (o0 : Nat) (x_th : Int32) (mwo : Nat) (mim : Nat) (mhi : Nat) (mlu : Nat) (mtp : Nat) (x_td : Int32) (mfv : Nat) (x_sz : Int32) (x_at : Int32) (x_fr : Int32) (x_to : Int32) (x_va : Int32) (x_fk : Int32) (x_fp : Int32) (mfr : Nat) (mwt : Nat) (x_wt : Int32) (x_op : Int32) (x_jo : Int32) (mfg : Nat) (mpl : Nat) (x_dr : Int64) (mtm : Nat) (mfa : Nat) (mqu : Nat) (mmo : Nat) (mwy : Nat) (mwn : Nat) (mma : Nat) (mwi : Nat) (mnu : Nat) (mmv : Nat) (c_wo : ClassId) (c_lu : ClassId) (c_fg : ClassId) (c_tm : ClassId) (w_wo : Nat → Int32) (w_lu : Nat → Int32) (w_fg : Nat → Int32) (w_tm : Nat → Int32) (ln : Int32) (bs : Int32) (tk : Int32) (lw : Int32) (li : Int32) (a1 : Int32) (a2 : Int32) (a3 : Int32) (sz : Nat) (b_ln : (0 : Int) ≤ ln.toInt ∧ ln.toInt ≤ 12) (b_bs : (0 : Int) ≤ bs.toInt ∧ bs.toInt ≤ 16) (b_tk : (0 : Int) ≤ tk.toInt ∧ tk.toInt ≤ 20000) (b_lw : (0 : Int) ≤ lw.toInt ∧ lw.toInt ≤ 9) (ha_mfg : rg w_fg 12 0 15) (hw0 : w_wo 0 = ln) (hw1 : w_wo 1 = bs) (hw2 : w_wo 2 = tk) (hw3 : w_wo 3 = lw) (hw4 : w_wo 4 = li) (hwz : (ln.toInt = 0 ∧ bs.toInt = 0 ∧ tk.toInt = 0 ∧ lw.toInt = 0) ∨ (1 ≤ ln.toInt ∧ 2 ≤ bs.toInt ∧ 1 ≤ tk.toInt)) : Met l yX10_same uX10_same ({ frames := 3, cells := 0, slots := 0, locals := 69 }) (va_Pc [.ref o0, .int a1, .int a2, .int a3] (hw (dC, dI) vwCl [(o0, .inr (8, [.int x_th, .ref mwo, .ref mim, .ref mhi, .ref mlu, .ref mtp, .int x_td, .ref mfv, .int x_sz, .int x_at, .int x_fr, .int x_to, .int x_va, .int x_fk, .int x_fp, .ref mfr, .ref mwt, .int x_wt, .int x_op, .int x_jo, .ref mfg, .ref mpl, .long x_dr, .ref mtm, .ref mfa, .ref mqu, .ref mmo, .ref mwy, .ref mwn, .ref mma, .ref mwi, .ref mnu, .ref mmv])), (mwo, .inl (c_wo, 1875, .inl w_wo)), (mlu, .inl (c_lu, 20000, .inl w_lu)), (mfg, .inl (c_fg, 12, .inl w_fg)), (mtm, .inl (c_tm, 16, .inl w_tm))] [(c_wo, .int), (c_lu, .int), (c_fg, .int), (c_tm, .int)] sz)) (va_Qi (fun (r : Int32) (_ : Unit) => True) (fun (_ : Unit) t => ∃ (o0_ : Nat → Int32) (o1_ : Nat → Int32), (rg o0_ 12 0 15) ∧ va_P (dC, dI) vwCl [(o0, .inr (8, [.int x_th, .ref mwo, .ref mim, .ref mhi, .ref mlu, .ref mtp, .int x_td, .ref mfv, .int x_sz, .int x_at, .int x_fr, .int x_to, .int x_va, .int x_fk, .int x_fp, .ref mfr, .ref mwt, .int x_wt, .int x_op, .int x_jo, .ref mfg, .ref mpl, .long x_dr, .ref mtm, .ref mfa, .ref mqu, .ref mmo, .ref mwy, .ref mwn, .ref mma, .ref mwi, .ref mnu, .ref mmv])), (mwo, .inl (c_wo, 1875, .inl w_wo)), (mlu, .inl (c_lu, 20000, .inl w_lu)), (mfg, .inl (c_fg, 12, .inl o0_)), (mtm, .inl (c_tm, 16, .inl o1_))] t.heap ∧ va_K (dC, dI) vwCl [(c_wo, .int), (c_lu, .int), (c_fg, .int), (c_tm, .int)] t ∧ va_D (va_A [(o0, .inr (8, [.int x_th, .ref mwo, .ref mim, .ref mhi, .ref mlu, .ref mtp, .int x_td, .ref mfv, .int x_sz, .int x_at, .int x_fr, .int x_to, .int x_va, .int x_fk, .int x_fp, .ref mfr, .ref mwt, .int x_wt, .int x_op, .int x_jo, .ref mfg, .ref mpl, .long x_dr, .ref mtm, .ref mfa, .ref mqu, .ref mmo, .ref mwy, .ref mwn, .ref mma, .ref mwi, .ref mnu, .ref mmv])), (mwo, .inl (c_wo, 1875, .inl w_wo)), (mlu, .inl (c_lu, 20000, .inl w_lu)), (mfg, .inl (c_fg, 12, .inl w_fg)), (mtm, .inl (c_tm, 16, .inl w_tm))] sz) [(o0, .inr (8, [.int x_th, .ref mwo, .ref mim, .ref mhi, .ref mlu, .ref mtp, .int x_td, .ref mfv, .int x_sz, .int x_at, .int x_fr, .int x_to, .int x_va, .int x_fk, .int x_fp, .ref mfr, .ref mwt, .int x_wt, .int x_op, .int x_jo, .ref mfg, .ref mpl, .long x_dr, .ref mtm, .ref mfa, .ref mqu, .ref mmo, .ref mwy, .ref mwn, .ref mma, .ref mwi, .ref mnu, .ref mmv])), (mwo, .inl (c_wo, 1875, .inl w_wo)), (mlu, .inl (c_lu, 20000, .inl w_lu)), (mfg, .inl (c_fg, 12, .inl o0_)), (mtm, .inl (c_tm, 16, .inl o1_))]) (va_A [(o0, .inr (8, [.int x_th, .ref mwo, .ref mim, .ref mhi, .ref mlu, .ref mtp, .int x_td, .ref mfv, .int x_sz, .int x_at, .int x_fr, .int x_to, .int x_va, .int x_fk, .int x_fp, .ref mfr, .ref mwt, .int x_wt, .int x_op, .int x_jo, .ref mfg, .ref mpl, .long x_dr, .ref mtm, .ref mfa, .ref mqu, .ref mmo, .ref mwy, .ref mwn, .ref mma, .ref mwi, .ref mnu, .ref mmv])), (mwo, .inl (c_wo, 1875, .inl w_wo)), (mlu, .inl (c_lu, 20000, .inl w_lu)), (mfg, .inl (c_fg, 12, .inl w_fg)), (mtm, .inl (c_tm, 16, .inl w_tm))] sz)) 0 0 (va_A [(o0, .inr (8, [.int x_th, .ref mwo, .ref mim, .ref mhi, .ref mlu, .ref mtp, .int x_td, .ref mfv, .int x_sz, .int x_at, .int x_fr, .int x_to, .int x_va, .int x_fk, .int x_fp, .ref mfr, .ref mwt, .int x_wt, .int x_op, .int x_jo, .ref mfg, .ref mpl, .long x_dr, .ref mtm, .ref mfa, .ref mqu, .ref mmo, .ref mwy, .ref mwn, .ref mma, .ref mwi, .ref mnu, .ref mmv])), (mwo, .inl (c_wo, 1875, .inl w_wo)), (mlu, .inl (c_lu, 20000, .inl w_lu)), (mfg, .inl (c_fg, 12, .inl w_fg)), (mtm, .inl (c_tm, 16, .inl w_tm))] sz) := by
  refine Met.ofW (cc := cX10_same) (maxL := 8) (ret := (some .int)) pn_X10 rfl ?_
  intro p e s m args below meth c s₁ B hml hv
  obtain ⟨rfl, hsz, hP, hK, hD0, hN⟩ := hv
  have hx := B.exec
  have hb := B.bytes
  have hr := B.returns
  have hts := atoms_spec (ws := uX10_same) B.pre
  have hown : s.vm.findClass RX10 = some m.cls := hown_of B.named rfl
  have hlocks := B.notSynchronized
  subst hsz
  have hD := hD0.self (sz := s.heap.size)
  generalize hAe : va_A [(o0, .inr (8, [.int x_th, .ref mwo, .ref mim, .ref mhi, .ref mlu, .ref mtp, .int x_td, .ref mfv, .int x_sz, .int x_at, .int x_fr, .int x_to, .int x_va, .int x_fk, .int x_fp, .ref mfr, .ref mwt, .int x_wt, .int x_op, .int x_jo, .ref mfg, .ref mpl, .long x_dr, .ref mtm, .ref mfa, .ref mqu, .ref mmo, .ref mwy, .ref mwn, .ref mma, .ref mwi, .ref mnu, .ref mmv])), (mwo, .inl (c_wo, 1875, .inl w_wo)), (mlu, .inl (c_lu, 20000, .inl w_lu)), (mfg, .inl (c_fg, 12, .inl w_fg)), (mtm, .inl (c_tm, 16, .inl w_tm))] s.heap.size = A at hD ⊢
  have hA : ∀ q : Nat, s.heap.size ≤ q → A q := fun q h => by rw [← hAe]; exact Or.inr h
  have hS : va_S A s.heap s.heap [] := va_S.rf
  have hP : va_P (dC, dI) vwCl [(o0, .inr (8, [.int x_th, .ref mwo, .ref mim, .ref mhi, .ref mlu, .ref mtp, .int x_td, .ref mfv, .int x_sz, .int x_at, .int x_fr, .int x_to, .int x_va, .int x_fk, .int x_fp, .ref mfr, .ref mwt, .int x_wt, .int x_op, .int x_jo, .ref mfg, .ref mpl, .long x_dr, .ref mtm, .ref mfa, .ref mqu, .ref mmo, .ref mwy, .ref mwn, .ref mma, .ref mwi, .ref mnu, .ref mmv])), (mwo, .inl (c_wo, 1875, .inl w_wo)), (mlu, .inl (c_lu, 20000, .inl w_lu)), (mfg, .inl (c_fg, 12, .inl w_fg)), (mtm, .inl (c_tm, 16, .inl w_tm))] s.heap := hP
  have hl := lv_entry ([.ref o0, .int a1, .int a2, .int a3]) (n := 8) (Nat.le_of_ble_eq_true rfl)
  rw [lg_entry_eq]
  generalize (lg_sl ([.ref o0, .int a1, .int a2, .int a3]) ++ List.replicate (8 - (lg_sl ([.ref o0, .int a1, .int a2, .int a3])).length) Slot.unset).toArray = ls at hl ⊢
  have hl : lv_has ls 8 [(0, .ref o0), (1, .int a1), (2, .int a2), (3, .int a3)] := hl
  refine lv_aload_n hx hb dX10_same_0 rfl (lv_at hl 0 rfl) ?_
  refine lv_iload_n hx hb dX10_same_1 rfl (lv_at hl 1 rfl) ?_
  refine lv_iload_n hx hb dX10_same_2 rfl (lv_at hl 2 rfl) ?_
  refine vp_callSi (W.runV (As := [.int a1, .int a2]) (rest := []) ⟨hx, hb, hml, hown, hts⟩ (kX10_isBoth l dC dI o0 x_th mwo mim mhi mlu mtp x_td mfv x_sz x_at x_fr x_to x_va x_fk x_fp mfr mwt x_wt x_op x_jo mfg mpl x_dr mtm mfa mqu mmo mwy mwn mma mwi mnu mmv c_wo w_wo ln bs tk lw li a1 a2 b_ln b_bs b_tk b_lw (hw0) (hw1) (hw2) (hw3) (hw4) (hwz)) (cwV 2 hts gX10_same__X10_isBoth_V313 rfl rfl rfl hd_yX10_isBoth ⟨lel 3 3 rfl, lel 69 69 rfl⟩) ⟨pw_fb, rcv_X10 hK hP (q0 := 0) rfl, (pw_use hP hK hN [0, 1] rfl [0] rfl)⟩ rfl rfl hl.1 rfl (lv_room (Nat.le_of_ble_eq_true rfl)) dX10_same_3 ⟨lel 0 0 rfl, lel 0 0 rfl⟩) (fun r_11690 h_r_11690 => ?_)
  obtain ⟨b_r_11690, nz_r_11690⟩ := h_r_11690
  have b_r_11690 : (0 : Int) ≤ r_11690.toInt ∧ r_11690.toInt ≤ 1 := b_r_11690
  refine lv_if_eq (tgt := 21) hx hb dX10_same_6 (by decide) (fun c_11691 => ?_) (fun c_11691 => ?_)
  ·
    have n_c_11691 : (r_11690.toInt : Int) = 0 := c_eq rfl (by decide) c_11691
    have b_r_11690 : (0 : Int) ≤ r_11690.toInt ∧ r_11690.toInt ≤ 0 := r_eq1 b_r_11690 (by decide : (0 : Int) ≤ (0 : Int32).toInt ∧ (0 : Int32).toInt ≤ 0) n_c_11691 (by decide)
    refine lv_bipush (v := (-2)) hx hb dX10_same_21 (by decide) ?_
    have hP9 := hP.sub (ws' := [(o0, .inr (8, [.int x_th, .ref mwo, .ref mim, .ref mhi, .ref mlu, .ref mtp, .int x_td, .ref mfv, .int x_sz, .int x_at, .int x_fr, .int x_to, .int x_va, .int x_fk, .int x_fp, .ref mfr, .ref mwt, .int x_wt, .int x_op, .int x_jo, .ref mfg, .ref mpl, .long x_dr, .ref mtm, .ref mfa, .ref mqu, .ref mmo, .ref mwy, .ref mwn, .ref mma, .ref mwi, .ref mnu, .ref mmv])), (mwo, .inl (c_wo, 1875, .inl w_wo)), (mlu, .inl (c_lu, 20000, .inl w_lu)), (mfg, .inl (c_fg, 12, .inl w_fg)), (mtm, .inl (c_tm, 16, .inl w_tm))]) [0, 1, 2, 3, 4] rfl
    have hD9 := hD.sub (ws' := [(o0, .inr (8, [.int x_th, .ref mwo, .ref mim, .ref mhi, .ref mlu, .ref mtp, .int x_td, .ref mfv, .int x_sz, .int x_at, .int x_fr, .int x_to, .int x_va, .int x_fk, .int x_fp, .ref mfr, .ref mwt, .int x_wt, .int x_op, .int x_jo, .ref mfg, .ref mpl, .long x_dr, .ref mtm, .ref mfa, .ref mqu, .ref mmo, .ref mwy, .ref mwn, .ref mma, .ref mwi, .ref mnu, .ref mmv])), (mwo, .inl (c_wo, 1875, .inl w_wo)), (mlu, .inl (c_lu, 20000, .inl w_lu)), (mfg, .inl (c_fg, 12, .inl w_fg)), (mtm, .inl (c_tm, 16, .inl w_tm))]) [0, 1, 2, 3, 4] (by decide) rfl
    have hK9 := hK.sub (tys' := [(c_wo, .int), (c_lu, .int), (c_fg, .int), (c_tm, .int)]) [0, 1, 2, 3] rfl
    exact W.iret (v := (-2)) hx hb hr (fun t ht hW => ⟨⟨(-2), (), rfl, trivial, w_fg, w_tm, ha_mfg, by rw [ht]; exact hP9, va_K.moved hW.alike hK9, hD9⟩, hS.F ht⟩) hS.2.2 dX10_same_23
  ·
    have n_c_11691 : (r_11690.toInt : Int) ≠ 0 := c_ne rfl (by decide) c_11691
    have b_r_11690 : (1 : Int) ≤ r_11690.toInt ∧ r_11690.toInt ≤ 1 := r_ne1 b_r_11690 (by decide : (0 : Int) ≤ (0 : Int32).toInt ∧ (0 : Int32).toInt ≤ 0) n_c_11691 (by decide)
    obtain ⟨b_a1, b_a2, g_11692⟩ := nz_r_11690 c_11691
    refine lv_iload_n hx hb dX10_same_9 rfl (lv_at hl 3 rfl) ?_
    obtain ⟨z_11693, e_z_11693⟩ : ∃ y : Int64, y = a3.toInt64 := ⟨_, rfl⟩
    refine lv_i2l (v := z_11693) hx hb dX10_same_10 e_z_11693.symm ?_
    obtain ⟨q_z_11693, b_z_11693⟩ := ti_i2l e_z_11693 (ti_rng a3)
    refine lv_lconst (v := 0) hx hb dX10_same_11 (by decide) ?_
    refine lv_ldc2 (v := 2) hx hb hown (hts (.constantLong RX10 80 (2)) (List.mem_of_getElem? (i := 5) rfl)) dX10_same_12 ?_
    refine vp_callSi (W.runS (As := [.long z_11693, .long 0, .long 2]) (rest := []) ⟨hx, hb, hml, hown, hts⟩ (kX10_in l dC dI z_11693 0 2 ) (va_cwS 3 hts gX10_same__X10_in_S82 rfl rfl rfl hd_yX10_in.2 ⟨lel 1 3 rfl, lel 25 69 rfl⟩) ⟨pn_fb, pn_use⟩ rfl rfl hl.1 rfl (lv_room (Nat.le_of_ble_eq_true rfl)) dX10_same_15 ⟨lel 0 0 rfl, lel 0 0 rfl⟩) (fun r_11694 h_r_11694 => ?_)
    obtain ⟨b_r_11694, nz_r_11694⟩ := h_r_11694
    have b_r_11694 : (0 : Int) ≤ r_11694.toInt ∧ r_11694.toInt ≤ 1 := b_r_11694
    refine lv_if_ne (tgt := 24) hx hb dX10_same_18 (by decide) (fun c_11695 => ?_) (fun c_11695 => ?_)
    ·
      have n_c_11695 : (r_11694.toInt : Int) ≠ 0 := c_ne rfl (by decide) c_11695
      have b_r_11694 : (1 : Int) ≤ r_11694.toInt ∧ r_11694.toInt ≤ 1 := r_ne1 b_r_11694 (by decide : (0 : Int) ≤ (0 : Int32).toInt ∧ (0 : Int32).toInt ≤ 0) n_c_11695 (by decide)
      have g_11696 := nz_r_11694 c_11695
      have lt0_g_11696 := (by decide : (0 : Int64).toInt = 0)
      have lt1_g_11696 := (by decide : (2 : Int64).toInt = 2)
      have b_z_11693 : (0 : Int) ≤ z_11693.toInt ∧ z_11693.toInt ≤ 2 := by
        have q0 := b_z_11693
        have q1 := (by decide : (0 : Int) ≤ (0 : Int64).toInt ∧ (0 : Int64).toInt ≤ 0)
        have q2 := (by decide : (2 : Int) ≤ (2 : Int64).toInt ∧ (2 : Int64).toInt ≤ 2)
        omega
      have b_a3 : (0 : Int) ≤ a3.toInt ∧ a3.toInt ≤ 2 := by
        have q0 := b_z_11693; have q1 := q_z_11693; have q2 := (ti_rng a3); omega
      refine lv_aload_n hx hb dX10_same_24 rfl (lv_at hl 0 rfl) ?_
      refine lv_iload_n hx hb dX10_same_25 rfl (lv_at hl 2 rfl) ?_
      have hFc := va_free (wc := [(o0, .inr (8, [.int x_th, .ref mwo, .ref mim, .ref mhi, .ref mlu, .ref mtp, .int x_td, .ref mfv, .int x_sz, .int x_at, .int x_fr, .int x_to, .int x_va, .int x_fk, .int x_fp, .ref mfr, .ref mwt, .int x_wt, .int x_op, .int x_jo, .ref mfg, .ref mpl, .long x_dr, .ref mtm, .ref mfa, .ref mqu, .ref mmo, .ref mwy, .ref mwn, .ref mma, .ref mwi, .ref mnu, .ref mmv])), (mwo, .inl (c_wo, 1875, .inl w_wo)), (mfg, .inl (c_fg, 12, .inl w_fg))]) hD hS hA [0, 1, 3] rfl
      refine va_callv (va_runV (As := [.int a2]) (rest := []) ⟨hx, hb, hml, hown, hts⟩ (kX10_fillFigures l dC dI o0 x_th mwo mim mhi mlu mtp x_td mfv x_sz x_at x_fr x_to x_va x_fk x_fp mfr mwt x_wt x_op x_jo mfg mpl x_dr mtm mfa mqu mmo mwy mwn mma mwi mnu mmv c_wo c_fg w_wo w_fg ln bs tk lw li a2 (s.heap.size) b_ln b_bs b_tk b_lw b_a2 ha_mfg (hw0) (hw1) (hw2) (hw3) (hw4) (hwz)) (cwV 1 hts gX10_same__X10_fillFigures_V302 rfl rfl rfl hd_yX10_fillFigures ⟨lel 1 3 rfl, lel 23 69 rfl⟩) ⟨hw_fb, rcv_X10 hK hP (q0 := 0) rfl, (hw_use hP hD hK hN [0, 1, 3] rfl (by decide) rfl [0, 2] rfl)⟩ rfl rfl hl.1 rfl (lv_room (Nat.le_of_ble_eq_true rfl)) dX10_same_26 ⟨lel 0 0 rfl, lel 0 0 rfl⟩) hS (fun q _ h => hFc q h) hFc (fun u_11698 t H1 locs ht hvm hw_r_11697 hB hz1 hk1 hS => ?_)
      obtain ⟨o0_11699, ha_11700, hP1, hK1, hD1⟩ := hB
      rw [ht] at hP1
      have hK1 := va_K.moved hvm.symm hK1
      obtain ⟨hP, hD⟩ := va_join (wr := [(mlu, .inl (c_lu, 20000, .inl w_lu)), (mtm, .inl (c_tm, 16, .inl w_tm))]) (w1 := [(o0, .inr (8, [.int x_th, .ref mwo, .ref mim, .ref mhi, .ref mlu, .ref mtp, .int x_td, .ref mfv, .int x_sz, .int x_at, .int x_fr, .int x_to, .int x_va, .int x_fk, .int x_fp, .ref mfr, .ref mwt, .int x_wt, .int x_op, .int x_jo, .ref mfg, .ref mpl, .long x_dr, .ref mtm, .ref mfa, .ref mqu, .ref mmo, .ref mwy, .ref mwn, .ref mma, .ref mwi, .ref mnu, .ref mmv])), (mwo, .inl (c_wo, 1875, .inl w_wo)), (mfg, .inl (c_fg, 12, .inl o0_11699))]) hP hD [0, 1, 3] [2, 4] rfl rfl (by decide) (by decide) hk1 hFc hP1 hD1
      have hK := (hK.sub (tys' := [(c_lu, .int), (c_tm, .int)]) [1, 3] rfl).app hK1
      generalize H1 = H at hP hS ⊢
      have hP := hP.sub (ws' := [(o0, .inr (8, [.int x_th, .ref mwo, .ref mim, .ref mhi, .ref mlu, .ref mtp, .int x_td, .ref mfv, .int x_sz, .int x_at, .int x_fr, .int x_to, .int x_va, .int x_fk, .int x_fp, .ref mfr, .ref mwt, .int x_wt, .int x_op, .int x_jo, .ref mfg, .ref mpl, .long x_dr, .ref mtm, .ref mfa, .ref mqu, .ref mmo, .ref mwy, .ref mwn, .ref mma, .ref mwi, .ref mnu, .ref mmv])), (mwo, .inl (c_wo, 1875, .inl w_wo)), (mlu, .inl (c_lu, 20000, .inl w_lu)), (mfg, .inl (c_fg, 12, .inl o0_11699)), (mtm, .inl (c_tm, 16, .inl w_tm))]) [2, 3, 0, 4, 1] rfl
      have hD := hD.sub (ws' := [(o0, .inr (8, [.int x_th, .ref mwo, .ref mim, .ref mhi, .ref mlu, .ref mtp, .int x_td, .ref mfv, .int x_sz, .int x_at, .int x_fr, .int x_to, .int x_va, .int x_fk, .int x_fp, .ref mfr, .ref mwt, .int x_wt, .int x_op, .int x_jo, .ref mfg, .ref mpl, .long x_dr, .ref mtm, .ref mfa, .ref mqu, .ref mmo, .ref mwy, .ref mwn, .ref mma, .ref mwi, .ref mnu, .ref mmv])), (mwo, .inl (c_wo, 1875, .inl w_wo)), (mlu, .inl (c_lu, 20000, .inl w_lu)), (mfg, .inl (c_fg, 12, .inl o0_11699)), (mtm, .inl (c_tm, 16, .inl w_tm))]) [2, 3, 0, 4, 1] (by decide) rfl
      have hK := hK.sub (tys' := [(c_wo, .int), (c_lu, .int), (c_fg, .int), (c_tm, .int)]) [2, 0, 3, 1] rfl
      have hP : va_P (dC, dI) vwCl [(o0, .inr (8, [.int x_th, .ref mwo, .ref mim, .ref mhi, .ref mlu, .ref mtp, .int x_td, .ref mfv, .int x_sz, .int x_at, .int x_fr, .int x_to, .int x_va, .int x_fk, .int x_fp, .ref mfr, .ref mwt, .int x_wt, .int x_op, .int x_jo, .ref mfg, .ref mpl, .long x_dr, .ref mtm, .ref mfa, .ref mqu, .ref mmo, .ref mwy, .ref mwn, .ref mma, .ref mwi, .ref mnu, .ref mmv])), (mwo, .inl (c_wo, 1875, .inl w_wo)), (mlu, .inl (c_lu, 20000, .inl w_lu)), (mfg, .inl (c_fg, 12, .inl o0_11699)), (mtm, .inl (c_tm, 16, .inl w_tm))] H := hP
      have hD : va_D A [(o0, .inr (8, [.int x_th, .ref mwo, .ref mim, .ref mhi, .ref mlu, .ref mtp, .int x_td, .ref mfv, .int x_sz, .int x_at, .int x_fr, .int x_to, .int x_va, .int x_fk, .int x_fp, .ref mfr, .ref mwt, .int x_wt, .int x_op, .int x_jo, .ref mfg, .ref mpl, .long x_dr, .ref mtm, .ref mfa, .ref mqu, .ref mmo, .ref mwy, .ref mwn, .ref mma, .ref mwi, .ref mnu, .ref mmv])), (mwo, .inl (c_wo, 1875, .inl w_wo)), (mlu, .inl (c_lu, 20000, .inl w_lu)), (mfg, .inl (c_fg, 12, .inl o0_11699)), (mtm, .inl (c_tm, 16, .inl w_tm))] := hD
      have hK : va_K (dC, dI) vwCl [(c_wo, .int), (c_lu, .int), (c_fg, .int), (c_tm, .int)] s := hK
      refine lv_iconst (v := 0) hx hb dX10_same_29 (by decide) ?_
      refine lv_istore (lv' := [(4, .int 0), (0, .ref o0), (1, .int a1), (2, .int a2), (3, .int a3)]) hx hb dX10_same_30 hl (by decide) rfl (fun ls hl => ?_)
      refine loopW (σ := Int32 × (Nat → Int32)) (fun v => (16 - v.1.toInt).toNat) (fun v H locs ls => ((0 : Int) ≤ v.1.toInt ∧ v.1.toInt ≤ 16) ∧ va_P (dC, dI) vwCl [(o0, .inr (8, [.int x_th, .ref mwo, .ref mim, .ref mhi, .ref mlu, .ref mtp, .int x_td, .ref mfv, .int x_sz, .int x_at, .int x_fr, .int x_to, .int x_va, .int x_fk, .int x_fp, .ref mfr, .ref mwt, .int x_wt, .int x_op, .int x_jo, .ref mfg, .ref mpl, .long x_dr, .ref mtm, .ref mfa, .ref mqu, .ref mmo, .ref mwy, .ref mwn, .ref mma, .ref mwi, .ref mnu, .ref mmv])), (mwo, .inl (c_wo, 1875, .inl w_wo)), (mlu, .inl (c_lu, 20000, .inl w_lu)), (mfg, .inl (c_fg, 12, .inl o0_11699)), (mtm, .inl (c_tm, 16, .inl v.2))] H ∧ va_D A [(o0, .inr (8, [.int x_th, .ref mwo, .ref mim, .ref mhi, .ref mlu, .ref mtp, .int x_td, .ref mfv, .int x_sz, .int x_at, .int x_fr, .int x_to, .int x_va, .int x_fk, .int x_fp, .ref mfr, .ref mwt, .int x_wt, .int x_op, .int x_jo, .ref mfg, .ref mpl, .long x_dr, .ref mtm, .ref mfa, .ref mqu, .ref mmo, .ref mwy, .ref mwn, .ref mma, .ref mwi, .ref mnu, .ref mmv])), (mwo, .inl (c_wo, 1875, .inl w_wo)), (mlu, .inl (c_lu, 20000, .inl w_lu)), (mfg, .inl (c_fg, 12, .inl o0_11699)), (mtm, .inl (c_tm, 16, .inl v.2))] ∧ va_S A s.heap H locs ∧ lv_has ls 8 [(4, .int v.1), (0, .ref o0), (1, .int a1), (2, .int a2), (3, .int a3)]) (fun v H locs ls hI ih_32_17546 => ?_) ((0 : Int32), w_tm) ⟨(show (0 : Int) ≤ (0 : Int32).toInt ∧ (0 : Int32).toInt ≤ 16 from (rg_w (by decide : (0 : Int) ≤ (0 : Int32).toInt ∧ (0 : Int32).toInt ≤ 0) (by decide) (by decide))), hP, hD, hS, lv_sub hl [0, 1, 2, 3, 4] rfl⟩
      obtain ⟨y_11704, f_11705⟩ := v
      obtain ⟨b_y_11704, hP, hD, hS, hl⟩ := hI
      have b_y_11704 : (0 : Int) ≤ y_11704.toInt ∧ y_11704.toInt ≤ 16 := b_y_11704
      have hP : va_P (dC, dI) vwCl [(o0, .inr (8, [.int x_th, .ref mwo, .ref mim, .ref mhi, .ref mlu, .ref mtp, .int x_td, .ref mfv, .int x_sz, .int x_at, .int x_fr, .int x_to, .int x_va, .int x_fk, .int x_fp, .ref mfr, .ref mwt, .int x_wt, .int x_op, .int x_jo, .ref mfg, .ref mpl, .long x_dr, .ref mtm, .ref mfa, .ref mqu, .ref mmo, .ref mwy, .ref mwn, .ref mma, .ref mwi, .ref mnu, .ref mmv])), (mwo, .inl (c_wo, 1875, .inl w_wo)), (mlu, .inl (c_lu, 20000, .inl w_lu)), (mfg, .inl (c_fg, 12, .inl o0_11699)), (mtm, .inl (c_tm, 16, .inl f_11705))] H := hP
      have hD : va_D A [(o0, .inr (8, [.int x_th, .ref mwo, .ref mim, .ref mhi, .ref mlu, .ref mtp, .int x_td, .ref mfv, .int x_sz, .int x_at, .int x_fr, .int x_to, .int x_va, .int x_fk, .int x_fp, .ref mfr, .ref mwt, .int x_wt, .int x_op, .int x_jo, .ref mfg, .ref mpl, .long x_dr, .ref mtm, .ref mfa, .ref mqu, .ref mmo, .ref mwy, .ref mwn, .ref mma, .ref mwi, .ref mnu, .ref mmv])), (mwo, .inl (c_wo, 1875, .inl w_wo)), (mlu, .inl (c_lu, 20000, .inl w_lu)), (mfg, .inl (c_fg, 12, .inl o0_11699)), (mtm, .inl (c_tm, 16, .inl f_11705))] := hD
      have hl : lv_has ls 8 [(4, .int y_11704), (0, .ref o0), (1, .int a1), (2, .int a2), (3, .int a3)] := hl
      refine lv_iload hx hb dX10_same_32 (lv_at hl 0 rfl) ?_
      refine lv_bipush (v := 16) hx hb dX10_same_34 (by decide) ?_
      refine lv_icmp_ge (tgt := 53) hx hb dX10_same_36 (by decide) (fun c_17547 => ?_) (fun c_17547 => ?_)
      ·
        have n_c_17547 : (16 : Int) ≤ y_11704.toInt := c_ge rfl (by decide) c_17547
        have b_y_11704 : (16 : Int) ≤ y_11704.toInt ∧ y_11704.toInt ≤ 16 := r_le2 (by decide : (16 : Int) ≤ (16 : Int32).toInt ∧ (16 : Int32).toInt ≤ 16) b_y_11704 n_c_17547 (by decide)
        refine lv_iconst (v := 0) hx hb dX10_same_53 (by decide) ?_
        refine lv_istore (lv' := [(4, .int 0), (0, .ref o0), (1, .int a1), (2, .int a2), (3, .int a3)]) hx hb dX10_same_54 hl (by decide) rfl (fun ls hl => ?_)
        refine loopW (σ := Int32 × (Nat → Int32)) (fun v => (12 - v.1.toInt).toNat) (fun v H locs ls => ((0 : Int) ≤ v.1.toInt ∧ v.1.toInt ≤ 12) ∧ va_P (dC, dI) vwCl [(o0, .inr (8, [.int x_th, .ref mwo, .ref mim, .ref mhi, .ref mlu, .ref mtp, .int x_td, .ref mfv, .int x_sz, .int x_at, .int x_fr, .int x_to, .int x_va, .int x_fk, .int x_fp, .ref mfr, .ref mwt, .int x_wt, .int x_op, .int x_jo, .ref mfg, .ref mpl, .long x_dr, .ref mtm, .ref mfa, .ref mqu, .ref mmo, .ref mwy, .ref mwn, .ref mma, .ref mwi, .ref mnu, .ref mmv])), (mwo, .inl (c_wo, 1875, .inl w_wo)), (mlu, .inl (c_lu, 20000, .inl w_lu)), (mfg, .inl (c_fg, 12, .inl o0_11699)), (mtm, .inl (c_tm, 16, .inl v.2))] H ∧ va_D A [(o0, .inr (8, [.int x_th, .ref mwo, .ref mim, .ref mhi, .ref mlu, .ref mtp, .int x_td, .ref mfv, .int x_sz, .int x_at, .int x_fr, .int x_to, .int x_va, .int x_fk, .int x_fp, .ref mfr, .ref mwt, .int x_wt, .int x_op, .int x_jo, .ref mfg, .ref mpl, .long x_dr, .ref mtm, .ref mfa, .ref mqu, .ref mmo, .ref mwy, .ref mwn, .ref mma, .ref mwi, .ref mnu, .ref mmv])), (mwo, .inl (c_wo, 1875, .inl w_wo)), (mlu, .inl (c_lu, 20000, .inl w_lu)), (mfg, .inl (c_fg, 12, .inl o0_11699)), (mtm, .inl (c_tm, 16, .inl v.2))] ∧ va_S A s.heap H locs ∧ lv_has ls 8 [(4, .int v.1), (0, .ref o0), (1, .int a1), (2, .int a2), (3, .int a3)]) (fun v H locs ls hI ih_56_22211 => ?_) ((0 : Int32), f_11705) ⟨(show (0 : Int) ≤ (0 : Int32).toInt ∧ (0 : Int32).toInt ≤ 12 from (rg_w (by decide : (0 : Int) ≤ (0 : Int32).toInt ∧ (0 : Int32).toInt ≤ 0) (by decide) (by decide))), hP, hD, hS, lv_sub hl [0, 1, 2, 3, 4] rfl⟩
        obtain ⟨y_18715, f_18716⟩ := v
        obtain ⟨b_y_18715, hP, hD, hS, hl⟩ := hI
        have b_y_18715 : (0 : Int) ≤ y_18715.toInt ∧ y_18715.toInt ≤ 12 := b_y_18715
        have hP : va_P (dC, dI) vwCl [(o0, .inr (8, [.int x_th, .ref mwo, .ref mim, .ref mhi, .ref mlu, .ref mtp, .int x_td, .ref mfv, .int x_sz, .int x_at, .int x_fr, .int x_to, .int x_va, .int x_fk, .int x_fp, .ref mfr, .ref mwt, .int x_wt, .int x_op, .int x_jo, .ref mfg, .ref mpl, .long x_dr, .ref mtm, .ref mfa, .ref mqu, .ref mmo, .ref mwy, .ref mwn, .ref mma, .ref mwi, .ref mnu, .ref mmv])), (mwo, .inl (c_wo, 1875, .inl w_wo)), (mlu, .inl (c_lu, 20000, .inl w_lu)), (mfg, .inl (c_fg, 12, .inl o0_11699)), (mtm, .inl (c_tm, 16, .inl f_18716))] H := hP
        have hD : va_D A [(o0, .inr (8, [.int x_th, .ref mwo, .ref mim, .ref mhi, .ref mlu, .ref mtp, .int x_td, .ref mfv, .int x_sz, .int x_at, .int x_fr, .int x_to, .int x_va, .int x_fk, .int x_fp, .ref mfr, .ref mwt, .int x_wt, .int x_op, .int x_jo, .ref mfg, .ref mpl, .long x_dr, .ref mtm, .ref mfa, .ref mqu, .ref mmo, .ref mwy, .ref mwn, .ref mma, .ref mwi, .ref mnu, .ref mmv])), (mwo, .inl (c_wo, 1875, .inl w_wo)), (mlu, .inl (c_lu, 20000, .inl w_lu)), (mfg, .inl (c_fg, 12, .inl o0_11699)), (mtm, .inl (c_tm, 16, .inl f_18716))] := hD
        have hl : lv_has ls 8 [(4, .int y_18715), (0, .ref o0), (1, .int a1), (2, .int a2), (3, .int a3)] := hl
        refine lv_iload hx hb dX10_same_56 (lv_at hl 0 rfl) ?_
        refine lv_aload_n hx hb dX10_same_58 rfl (lv_at hl 1 rfl) ?_
        refine va_get (D := (dC, dI)) (ci := 8) (v := .ref mwo) (C := RX10) (T := TX10) (N := 33) hx hb hts iX10_same_X10 hown hK hP 0 rfl rfl 1 (by decide) (hts (.fieldLink RX10 9 "LuckyTicketModel" "world" "[I") (List.mem_of_getElem? (i := 12) rfl)) (fun _ h9 => h9) rfl dX10_same_59 ?_
        refine lv_iconst (v := 0) hx hb dX10_same_62 (by decide) ?_
        refine va_iald hx hb hK hP 1 0 rfl rfl (vp_in_b (by decide : (0 : Int) ≤ (0 : Int32).toInt ∧ (0 : Int32).toInt ≤ 0) (by decide) (by decide)) dX10_same_63 ?_
        refine lv_topi (fun z_22212 e_z_22212 => ?_)
        obtain rfl : ln = z_22212 := (e_z_22212.trans hw0).symm
        refine lv_icmp_ge (tgt := 89) hx hb dX10_same_64 (by decide) (fun c_22213 => ?_) (fun c_22213 => ?_)
        ·
          have n_c_22213 : (ln.toInt : Int) ≤ y_18715.toInt := c_ge rfl rfl c_22213
          refine lv_iconst (v := 0) hx hb dX10_same_89 (by decide) ?_
          refine lv_istore (lv' := [(4, .int 0), (0, .ref o0), (1, .int a1), (2, .int a2), (3, .int a3)]) hx hb dX10_same_90 hl (by decide) rfl (fun ls hl => ?_)
          refine lv_iconst (v := 0) hx hb dX10_same_92 (by decide) ?_
          refine lv_istore (lv' := [(5, .int 0), (4, .int 0), (0, .ref o0), (1, .int a1), (2, .int a2), (3, .int a3)]) hx hb dX10_same_93 hl (by decide) rfl (fun ls hl => ?_)
          refine lv_iconst (v := (-1)) hx hb dX10_same_95 (by decide) ?_
          refine lv_istore (lv' := [(6, .int (-1)), (5, .int 0), (4, .int 0), (0, .ref o0), (1, .int a1), (2, .int a2), (3, .int a3)]) hx hb dX10_same_96 hl (by decide) rfl (fun ls hl => ?_)
          refine lv_iconst (v := 0) hx hb dX10_same_98 (by decide) ?_
          refine lv_istore (lv' := [(7, .int 0), (6, .int (-1)), (5, .int 0), (4, .int 0), (0, .ref o0), (1, .int a1), (2, .int a2), (3, .int a3)]) hx hb dX10_same_99 hl (by decide) rfl (fun ls hl => ?_)
          refine loopW (σ := Int32 × Int32 × Int32 × Int32 × (Nat → Int32)) (fun v => (20000 - v.1.toInt).toNat) (fun v H locs ls => ((0 : Int) ≤ v.1.toInt ∧ v.1.toInt ≤ 20000) ∧ ((-1 : Int) ≤ v.2.1.toInt ∧ v.2.1.toInt ≤ 19999) ∧ (rg v.2.2.2.2 12 0 15) ∧ va_P (dC, dI) vwCl [(o0, .inr (8, [.int x_th, .ref mwo, .ref mim, .ref mhi, .ref mlu, .ref mtp, .int x_td, .ref mfv, .int x_sz, .int x_at, .int x_fr, .int x_to, .int x_va, .int x_fk, .int x_fp, .ref mfr, .ref mwt, .int x_wt, .int x_op, .int x_jo, .ref mfg, .ref mpl, .long x_dr, .ref mtm, .ref mfa, .ref mqu, .ref mmo, .ref mwy, .ref mwn, .ref mma, .ref mwi, .ref mnu, .ref mmv])), (mwo, .inl (c_wo, 1875, .inl w_wo)), (mlu, .inl (c_lu, 20000, .inl w_lu)), (mfg, .inl (c_fg, 12, .inl v.2.2.2.2)), (mtm, .inl (c_tm, 16, .inl f_18716))] H ∧ va_D A [(o0, .inr (8, [.int x_th, .ref mwo, .ref mim, .ref mhi, .ref mlu, .ref mtp, .int x_td, .ref mfv, .int x_sz, .int x_at, .int x_fr, .int x_to, .int x_va, .int x_fk, .int x_fp, .ref mfr, .ref mwt, .int x_wt, .int x_op, .int x_jo, .ref mfg, .ref mpl, .long x_dr, .ref mtm, .ref mfa, .ref mqu, .ref mmo, .ref mwy, .ref mwn, .ref mma, .ref mwi, .ref mnu, .ref mmv])), (mwo, .inl (c_wo, 1875, .inl w_wo)), (mlu, .inl (c_lu, 20000, .inl w_lu)), (mfg, .inl (c_fg, 12, .inl v.2.2.2.2)), (mtm, .inl (c_tm, 16, .inl f_18716))] ∧ va_S A s.heap H locs ∧ lv_has ls 8 [(7, .int v.1), (6, .int v.2.1), (5, .int v.2.2.1), (4, .int v.2.2.2.1), (0, .ref o0), (1, .int a1), (2, .int a2), (3, .int a3)]) (fun v H locs ls hI ih_101_23303 => ?_) ((0 : Int32), (-1 : Int32), (0 : Int32), (0 : Int32), o0_11699) ⟨(show (0 : Int) ≤ (0 : Int32).toInt ∧ (0 : Int32).toInt ≤ 20000 from (rg_w (by decide : (0 : Int) ≤ (0 : Int32).toInt ∧ (0 : Int32).toInt ≤ 0) (by decide) (by decide))), (show (-1 : Int) ≤ (-1 : Int32).toInt ∧ (-1 : Int32).toInt ≤ 19999 from (rg_w (by decide : (-1 : Int) ≤ ((-1) : Int32).toInt ∧ ((-1) : Int32).toInt ≤ -1) (by decide) (by decide))), (show rg o0_11699 12 0 15 from ha_11700), hP, hD, hS, lv_sub hl [0, 1, 2, 3, 4, 5, 6, 7] rfl⟩
          obtain ⟨y_22279, y_22280, y_22281, y_22282, f_22283⟩ := v
          obtain ⟨b_y_22279, b_y_22280, ha_f_22283, hP, hD, hS, hl⟩ := hI
          have b_y_22279 : (0 : Int) ≤ y_22279.toInt ∧ y_22279.toInt ≤ 20000 := b_y_22279
          have b_y_22280 : (-1 : Int) ≤ y_22280.toInt ∧ y_22280.toInt ≤ 19999 := b_y_22280
          have ha_f_22283 : rg f_22283 12 0 15 := ha_f_22283
          have hP : va_P (dC, dI) vwCl [(o0, .inr (8, [.int x_th, .ref mwo, .ref mim, .ref mhi, .ref mlu, .ref mtp, .int x_td, .ref mfv, .int x_sz, .int x_at, .int x_fr, .int x_to, .int x_va, .int x_fk, .int x_fp, .ref mfr, .ref mwt, .int x_wt, .int x_op, .int x_jo, .ref mfg, .ref mpl, .long x_dr, .ref mtm, .ref mfa, .ref mqu, .ref mmo, .ref mwy, .ref mwn, .ref mma, .ref mwi, .ref mnu, .ref mmv])), (mwo, .inl (c_wo, 1875, .inl w_wo)), (mlu, .inl (c_lu, 20000, .inl w_lu)), (mfg, .inl (c_fg, 12, .inl f_22283)), (mtm, .inl (c_tm, 16, .inl f_18716))] H := hP
          have hD : va_D A [(o0, .inr (8, [.int x_th, .ref mwo, .ref mim, .ref mhi, .ref mlu, .ref mtp, .int x_td, .ref mfv, .int x_sz, .int x_at, .int x_fr, .int x_to, .int x_va, .int x_fk, .int x_fp, .ref mfr, .ref mwt, .int x_wt, .int x_op, .int x_jo, .ref mfg, .ref mpl, .long x_dr, .ref mtm, .ref mfa, .ref mqu, .ref mmo, .ref mwy, .ref mwn, .ref mma, .ref mwi, .ref mnu, .ref mmv])), (mwo, .inl (c_wo, 1875, .inl w_wo)), (mlu, .inl (c_lu, 20000, .inl w_lu)), (mfg, .inl (c_fg, 12, .inl f_22283)), (mtm, .inl (c_tm, 16, .inl f_18716))] := hD
          have hl : lv_has ls 8 [(7, .int y_22279), (6, .int y_22280), (5, .int y_22281), (4, .int y_22282), (0, .ref o0), (1, .int a1), (2, .int a2), (3, .int a3)] := hl
          refine lv_iload hx hb dX10_same_101 (lv_at hl 0 rfl) ?_
          refine lv_aload_n hx hb dX10_same_103 rfl (lv_at hl 4 rfl) ?_
          refine va_get (D := (dC, dI)) (ci := 8) (v := .ref mwo) (C := RX10) (T := TX10) (N := 33) hx hb hts iX10_same_X10 hown hK hP 0 rfl rfl 1 (by decide) (hts (.fieldLink RX10 9 "LuckyTicketModel" "world" "[I") (List.mem_of_getElem? (i := 12) rfl)) (fun _ h9 => h9) rfl dX10_same_104 ?_
          refine lv_iconst (v := 2) hx hb dX10_same_107 (by decide) ?_
          refine va_iald hx hb hK hP 1 0 rfl rfl (vp_in_b (by decide : (2 : Int) ≤ (2 : Int32).toInt ∧ (2 : Int32).toInt ≤ 2) (by decide) (by decide)) dX10_same_108 ?_
          refine lv_topi (fun z_23304 e_z_23304 => ?_)
          obtain rfl : tk = z_23304 := (e_z_23304.trans hw2).symm
          refine lv_icmp_ge (tgt := 182) hx hb dX10_same_109 (by decide) (fun c_23305 => ?_) (fun c_23305 => ?_)
          ·
            have n_c_23305 : (tk.toInt : Int) ≤ y_22279.toInt := c_ge rfl rfl c_23305
            refine lv_iload_n hx hb dX10_same_182 rfl (lv_at hl 7 rfl) ?_
            refine lv_if_ne (tgt := 191) hx hb dX10_same_183 (by decide) (fun c_23338 => ?_) (fun c_23338 => ?_)
            ·
              have n_c_23338 : (a3.toInt : Int) ≠ 0 := c_ne rfl (by decide) c_23338
              have b_a3 : (1 : Int) ≤ a3.toInt ∧ a3.toInt ≤ 2 := r_ne1 b_a3 (by decide : (0 : Int) ≤ (0 : Int32).toInt ∧ (0 : Int32).toInt ≤ 0) n_c_23338 (by decide)
              refine lv_iload_n hx hb dX10_same_191 rfl (lv_at hl 7 rfl) ?_
              refine lv_iconst (v := 1) hx hb dX10_same_192 (by decide) ?_
              refine lv_icmp_ne (tgt := 201) hx hb dX10_same_193 (by decide) (fun c_23339 => ?_) (fun c_23339 => ?_)
              ·
                have n_c_23339 : (a3.toInt : Int) ≠ 1 := c_ne rfl (by decide) c_23339
                have b_a3 : (2 : Int) ≤ a3.toInt ∧ a3.toInt ≤ 2 := r_ne1 b_a3 (by decide : (1 : Int) ≤ (1 : Int32).toInt ∧ (1 : Int32).toInt ≤ 1) n_c_23339 (by decide)
                refine lv_iload hx hb dX10_same_201 (lv_at hl 1 rfl) ?_
                have hP9 := hP.sub (ws' := [(o0, .inr (8, [.int x_th, .ref mwo, .ref mim, .ref mhi, .ref mlu, .ref mtp, .int x_td, .ref mfv, .int x_sz, .int x_at, .int x_fr, .int x_to, .int x_va, .int x_fk, .int x_fp, .ref mfr, .ref mwt, .int x_wt, .int x_op, .int x_jo, .ref mfg, .ref mpl, .long x_dr, .ref mtm, .ref mfa, .ref mqu, .ref mmo, .ref mwy, .ref mwn, .ref mma, .ref mwi, .ref mnu, .ref mmv])), (mwo, .inl (c_wo, 1875, .inl w_wo)), (mlu, .inl (c_lu, 20000, .inl w_lu)), (mfg, .inl (c_fg, 12, .inl f_22283)), (mtm, .inl (c_tm, 16, .inl f_18716))]) [0, 1, 2, 3, 4] rfl
                have hD9 := hD.sub (ws' := [(o0, .inr (8, [.int x_th, .ref mwo, .ref mim, .ref mhi, .ref mlu, .ref mtp, .int x_td, .ref mfv, .int x_sz, .int x_at, .int x_fr, .int x_to, .int x_va, .int x_fk, .int x_fp, .ref mfr, .ref mwt, .int x_wt, .int x_op, .int x_jo, .ref mfg, .ref mpl, .long x_dr, .ref mtm, .ref mfa, .ref mqu, .ref mmo, .ref mwy, .ref mwn, .ref mma, .ref mwi, .ref mnu, .ref mmv])), (mwo, .inl (c_wo, 1875, .inl w_wo)), (mlu, .inl (c_lu, 20000, .inl w_lu)), (mfg, .inl (c_fg, 12, .inl f_22283)), (mtm, .inl (c_tm, 16, .inl f_18716))]) [0, 1, 2, 3, 4] (by decide) rfl
                have hK9 := hK.sub (tys' := [(c_wo, .int), (c_lu, .int), (c_fg, .int), (c_tm, .int)]) [0, 1, 2, 3] rfl
                exact W.iret (v := y_22280) hx hb hr (fun t ht hW => ⟨⟨y_22280, (), rfl, trivial, f_22283, f_18716, ha_f_22283, by rw [ht]; exact hP9, va_K.moved hW.alike hK9, hD9⟩, hS.F ht⟩) hS.2.2 dX10_same_203
              ·
                have n_c_23339 : (a3.toInt : Int) = 1 := c_eq rfl (by decide) c_23339
                have b_a3 : (1 : Int) ≤ a3.toInt ∧ a3.toInt ≤ 1 := r_eq1 b_a3 (by decide : (1 : Int) ≤ (1 : Int32).toInt ∧ (1 : Int32).toInt ≤ 1) n_c_23339 (by decide)
                refine lv_iload hx hb dX10_same_196 (lv_at hl 2 rfl) ?_
                refine lv_goto (tgt := 203) hx hb dX10_same_198 (by decide) ?_
                have hP9 := hP.sub (ws' := [(o0, .inr (8, [.int x_th, .ref mwo, .ref mim, .ref mhi, .ref mlu, .ref mtp, .int x_td, .ref mfv, .int x_sz, .int x_at, .int x_fr, .int x_to, .int x_va, .int x_fk, .int x_fp, .ref mfr, .ref mwt, .int x_wt, .int x_op, .int x_jo, .ref mfg, .ref mpl, .long x_dr, .ref mtm, .ref mfa, .ref mqu, .ref mmo, .ref mwy, .ref mwn, .ref mma, .ref mwi, .ref mnu, .ref mmv])), (mwo, .inl (c_wo, 1875, .inl w_wo)), (mlu, .inl (c_lu, 20000, .inl w_lu)), (mfg, .inl (c_fg, 12, .inl f_22283)), (mtm, .inl (c_tm, 16, .inl f_18716))]) [0, 1, 2, 3, 4] rfl
                have hD9 := hD.sub (ws' := [(o0, .inr (8, [.int x_th, .ref mwo, .ref mim, .ref mhi, .ref mlu, .ref mtp, .int x_td, .ref mfv, .int x_sz, .int x_at, .int x_fr, .int x_to, .int x_va, .int x_fk, .int x_fp, .ref mfr, .ref mwt, .int x_wt, .int x_op, .int x_jo, .ref mfg, .ref mpl, .long x_dr, .ref mtm, .ref mfa, .ref mqu, .ref mmo, .ref mwy, .ref mwn, .ref mma, .ref mwi, .ref mnu, .ref mmv])), (mwo, .inl (c_wo, 1875, .inl w_wo)), (mlu, .inl (c_lu, 20000, .inl w_lu)), (mfg, .inl (c_fg, 12, .inl f_22283)), (mtm, .inl (c_tm, 16, .inl f_18716))]) [0, 1, 2, 3, 4] (by decide) rfl
                have hK9 := hK.sub (tys' := [(c_wo, .int), (c_lu, .int), (c_fg, .int), (c_tm, .int)]) [0, 1, 2, 3] rfl
                exact W.iret (v := y_22281) hx hb hr (fun t ht hW => ⟨⟨y_22281, (), rfl, trivial, f_22283, f_18716, ha_f_22283, by rw [ht]; exact hP9, va_K.moved hW.alike hK9, hD9⟩, hS.F ht⟩) hS.2.2 dX10_same_203
            ·
              have n_c_23338 : (a3.toInt : Int) = 0 := c_eq rfl (by decide) c_23338
              have b_a3 : (0 : Int) ≤ a3.toInt ∧ a3.toInt ≤ 0 := r_eq1 b_a3 (by decide : (0 : Int) ≤ (0 : Int32).toInt ∧ (0 : Int32).toInt ≤ 0) n_c_23338 (by decide)
              refine lv_iload hx hb dX10_same_186 (lv_at hl 3 rfl) ?_
              refine lv_goto (tgt := 203) hx hb dX10_same_188 (by decide) ?_
              have hP9 := hP.sub (ws' := [(o0, .inr (8, [.int x_th, .ref mwo, .ref mim, .ref mhi, .ref mlu, .ref mtp, .int x_td, .ref mfv, .int x_sz, .int x_at, .int x_fr, .int x_to, .int x_va, .int x_fk, .int x_fp, .ref mfr, .ref mwt, .int x_wt, .int x_op, .int x_jo, .ref mfg, .ref mpl, .long x_dr, .ref mtm, .ref mfa, .ref mqu, .ref mmo, .ref mwy, .ref mwn, .ref mma, .ref mwi, .ref mnu, .ref mmv])), (mwo, .inl (c_wo, 1875, .inl w_wo)), (mlu, .inl (c_lu, 20000, .inl w_lu)), (mfg, .inl (c_fg, 12, .inl f_22283)), (mtm, .inl (c_tm, 16, .inl f_18716))]) [0, 1, 2, 3, 4] rfl
              have hD9 := hD.sub (ws' := [(o0, .inr (8, [.int x_th, .ref mwo, .ref mim, .ref mhi, .ref mlu, .ref mtp, .int x_td, .ref mfv, .int x_sz, .int x_at, .int x_fr, .int x_to, .int x_va, .int x_fk, .int x_fp, .ref mfr, .ref mwt, .int x_wt, .int x_op, .int x_jo, .ref mfg, .ref mpl, .long x_dr, .ref mtm, .ref mfa, .ref mqu, .ref mmo, .ref mwy, .ref mwn, .ref mma, .ref mwi, .ref mnu, .ref mmv])), (mwo, .inl (c_wo, 1875, .inl w_wo)), (mlu, .inl (c_lu, 20000, .inl w_lu)), (mfg, .inl (c_fg, 12, .inl f_22283)), (mtm, .inl (c_tm, 16, .inl f_18716))]) [0, 1, 2, 3, 4] (by decide) rfl
              have hK9 := hK.sub (tys' := [(c_wo, .int), (c_lu, .int), (c_fg, .int), (c_tm, .int)]) [0, 1, 2, 3] rfl
              exact W.iret (v := y_22282) hx hb hr (fun t ht hW => ⟨⟨y_22282, (), rfl, trivial, f_22283, f_18716, ha_f_22283, by rw [ht]; exact hP9, va_K.moved hW.alike hK9, hD9⟩, hS.F ht⟩) hS.2.2 dX10_same_203
          ·
            have n_c_23305 : (y_22279.toInt : Int) < tk.toInt := c_nge rfl rfl c_23305
            have b_y_22279 : (0 : Int) ≤ y_22279.toInt ∧ y_22279.toInt ≤ 19999 := r_lt1 b_y_22279 b_tk n_c_23305 (by decide)
            have b_tk : (1 : Int) ≤ tk.toInt ∧ tk.toInt ≤ 20000 := r_lt2 b_y_22279 b_tk n_c_23305 (by decide)
            refine lv_aload_n hx hb dX10_same_112 rfl (lv_at hl 4 rfl) ?_
            refine lv_iload hx hb dX10_same_113 (lv_at hl 0 rfl) ?_
            have hFc := va_free (wc := [(o0, .inr (8, [.int x_th, .ref mwo, .ref mim, .ref mhi, .ref mlu, .ref mtp, .int x_td, .ref mfv, .int x_sz, .int x_at, .int x_fr, .int x_to, .int x_va, .int x_fk, .int x_fp, .ref mfr, .ref mwt, .int x_wt, .int x_op, .int x_jo, .ref mfg, .ref mpl, .long x_dr, .ref mtm, .ref mfa, .ref mqu, .ref mmo, .ref mwy, .ref mwn, .ref mma, .ref mwi, .ref mnu, .ref mmv])), (mwo, .inl (c_wo, 1875, .inl w_wo)), (mfg, .inl (c_fg, 12, .inl f_22283))]) hD hS hA [0, 1, 3] rfl
            refine va_callv (va_runV (As := [.int y_22279]) (rest := []) ⟨hx, hb, hml, hown, hts⟩ (kX10_fillFigures l dC dI o0 x_th mwo mim mhi mlu mtp x_td mfv x_sz x_at x_fr x_to x_va x_fk x_fp mfr mwt x_wt x_op x_jo mfg mpl x_dr mtm mfa mqu mmo mwy mwn mma mwi mnu mmv c_wo c_fg w_wo f_22283 ln bs tk lw li y_22279 (H.size) b_ln b_bs (rg_w b_tk (by decide) (by decide)) b_lw b_y_22279 ha_f_22283 (hw0) (hw1) (hw2) (hw3) (hw4) (hwz)) (cwV 1 hts gX10_same__X10_fillFigures_V302 rfl rfl rfl hd_yX10_fillFigures ⟨lel 1 3 rfl, lel 23 69 rfl⟩) ⟨hw_fb, rcv_X10 hK hP (q0 := 0) rfl, (hw_use hP hD hK hN [0, 1, 3] rfl (by decide) rfl [0, 2] rfl)⟩ rfl rfl hl.1 rfl (lv_room (Nat.le_of_ble_eq_true rfl)) dX10_same_115 ⟨lel 0 0 rfl, lel 0 0 rfl⟩) hS (fun q _ h => hFc q h) hFc (fun u_23341 t H1 locs ht hvm hw_r_23340 hB hz1 hk1 hS => ?_)
            obtain ⟨o0_23342, ha_23343, hP1, hK1, hD1⟩ := hB
            rw [ht] at hP1
            have hK1 := va_K.moved hvm.symm hK1
            obtain ⟨hP, hD⟩ := va_join (wr := [(mlu, .inl (c_lu, 20000, .inl w_lu)), (mtm, .inl (c_tm, 16, .inl f_18716))]) (w1 := [(o0, .inr (8, [.int x_th, .ref mwo, .ref mim, .ref mhi, .ref mlu, .ref mtp, .int x_td, .ref mfv, .int x_sz, .int x_at, .int x_fr, .int x_to, .int x_va, .int x_fk, .int x_fp, .ref mfr, .ref mwt, .int x_wt, .int x_op, .int x_jo, .ref mfg, .ref mpl, .long x_dr, .ref mtm, .ref mfa, .ref mqu, .ref mmo, .ref mwy, .ref mwn, .ref mma, .ref mwi, .ref mnu, .ref mmv])), (mwo, .inl (c_wo, 1875, .inl w_wo)), (mfg, .inl (c_fg, 12, .inl o0_23342))]) hP hD [0, 1, 3] [2, 4] rfl rfl (by decide) (by decide) hk1 hFc hP1 hD1
            have hK := (hK.sub (tys' := [(c_lu, .int), (c_tm, .int)]) [1, 3] rfl).app hK1
            generalize H1 = H at hP hS ⊢
            have hP := hP.sub (ws' := [(o0, .inr (8, [.int x_th, .ref mwo, .ref mim, .ref mhi, .ref mlu, .ref mtp, .int x_td, .ref mfv, .int x_sz, .int x_at, .int x_fr, .int x_to, .int x_va, .int x_fk, .int x_fp, .ref mfr, .ref mwt, .int x_wt, .int x_op, .int x_jo, .ref mfg, .ref mpl, .long x_dr, .ref mtm, .ref mfa, .ref mqu, .ref mmo, .ref mwy, .ref mwn, .ref mma, .ref mwi, .ref mnu, .ref mmv])), (mwo, .inl (c_wo, 1875, .inl w_wo)), (mlu, .inl (c_lu, 20000, .inl w_lu)), (mfg, .inl (c_fg, 12, .inl o0_23342)), (mtm, .inl (c_tm, 16, .inl f_18716))]) [2, 3, 0, 4, 1] rfl
            have hD := hD.sub (ws' := [(o0, .inr (8, [.int x_th, .ref mwo, .ref mim, .ref mhi, .ref mlu, .ref mtp, .int x_td, .ref mfv, .int x_sz, .int x_at, .int x_fr, .int x_to, .int x_va, .int x_fk, .int x_fp, .ref mfr, .ref mwt, .int x_wt, .int x_op, .int x_jo, .ref mfg, .ref mpl, .long x_dr, .ref mtm, .ref mfa, .ref mqu, .ref mmo, .ref mwy, .ref mwn, .ref mma, .ref mwi, .ref mnu, .ref mmv])), (mwo, .inl (c_wo, 1875, .inl w_wo)), (mlu, .inl (c_lu, 20000, .inl w_lu)), (mfg, .inl (c_fg, 12, .inl o0_23342)), (mtm, .inl (c_tm, 16, .inl f_18716))]) [2, 3, 0, 4, 1] (by decide) rfl
            have hK := hK.sub (tys' := [(c_wo, .int), (c_lu, .int), (c_fg, .int), (c_tm, .int)]) [2, 0, 3, 1] rfl
            have hP : va_P (dC, dI) vwCl [(o0, .inr (8, [.int x_th, .ref mwo, .ref mim, .ref mhi, .ref mlu, .ref mtp, .int x_td, .ref mfv, .int x_sz, .int x_at, .int x_fr, .int x_to, .int x_va, .int x_fk, .int x_fp, .ref mfr, .ref mwt, .int x_wt, .int x_op, .int x_jo, .ref mfg, .ref mpl, .long x_dr, .ref mtm, .ref mfa, .ref mqu, .ref mmo, .ref mwy, .ref mwn, .ref mma, .ref mwi, .ref mnu, .ref mmv])), (mwo, .inl (c_wo, 1875, .inl w_wo)), (mlu, .inl (c_lu, 20000, .inl w_lu)), (mfg, .inl (c_fg, 12, .inl o0_23342)), (mtm, .inl (c_tm, 16, .inl f_18716))] H := hP
            have hD : va_D A [(o0, .inr (8, [.int x_th, .ref mwo, .ref mim, .ref mhi, .ref mlu, .ref mtp, .int x_td, .ref mfv, .int x_sz, .int x_at, .int x_fr, .int x_to, .int x_va, .int x_fk, .int x_fp, .ref mfr, .ref mwt, .int x_wt, .int x_op, .int x_jo, .ref mfg, .ref mpl, .long x_dr, .ref mtm, .ref mfa, .ref mqu, .ref mmo, .ref mwy, .ref mwn, .ref mma, .ref mwi, .ref mnu, .ref mmv])), (mwo, .inl (c_wo, 1875, .inl w_wo)), (mlu, .inl (c_lu, 20000, .inl w_lu)), (mfg, .inl (c_fg, 12, .inl o0_23342)), (mtm, .inl (c_tm, 16, .inl f_18716))] := hD
            have hK : va_K (dC, dI) vwCl [(c_wo, .int), (c_lu, .int), (c_fg, .int), (c_tm, .int)] s := hK
            refine lv_aload_n hx hb dX10_same_118 rfl (lv_at hl 4 rfl) ?_
            refine vp_callSi (W.runV (As := []) (rest := []) ⟨hx, hb, hml, hown, hts⟩ (kX10_isSame l dC dI o0 x_th mwo mim mhi mlu mtp x_td mfv x_sz x_at x_fr x_to x_va x_fk x_fp mfr mwt x_wt x_op x_jo mfg mpl x_dr mtm mfa mqu mmo mwy mwn mma mwi mnu mmv c_wo c_fg c_tm w_wo o0_23342 f_18716 ln bs tk lw li b_ln b_bs (rg_w b_tk (by decide) (by decide)) b_lw ha_23343 (hw0) (hw1) (hw2) (hw3) (hw4) (hwz)) (cwV 0 hts gX10_same__X10_isSame_V433 rfl rfl rfl hd_yX10_isSame ⟨lel 1 3 rfl, lel 23 69 rfl⟩) ⟨pw_fb, rcv_X10 hK hP (q0 := 0) rfl, (pw_use hP hK hN [0, 1, 3, 4] rfl [0, 2, 3] rfl)⟩ rfl rfl hl.1 rfl (lv_room (Nat.le_of_ble_eq_true rfl)) dX10_same_119 ⟨lel 0 0 rfl, lel 0 0 rfl⟩) (fun r_23344 h_r_23344 => ?_)
            have b_r_23344 := h_r_23344
            have b_r_23344 : (0 : Int) ≤ r_23344.toInt ∧ r_23344.toInt ≤ 1 := b_r_23344
            refine cutW (σ := Int32 × Int32 × Int32) (pc2 := 176) (st2 := fun v => []) (cells2 := 0) (slots2 := 0) (fun v H locs ls => ((-1 : Int) ≤ v.1.toInt ∧ v.1.toInt ≤ 19999) ∧ va_P (dC, dI) vwCl [(o0, .inr (8, [.int x_th, .ref mwo, .ref mim, .ref mhi, .ref mlu, .ref mtp, .int x_td, .ref mfv, .int x_sz, .int x_at, .int x_fr, .int x_to, .int x_va, .int x_fk, .int x_fp, .ref mfr, .ref mwt, .int x_wt, .int x_op, .int x_jo, .ref mfg, .ref mpl, .long x_dr, .ref mtm, .ref mfa, .ref mqu, .ref mmo, .ref mwy, .ref mwn, .ref mma, .ref mwi, .ref mnu, .ref mmv])), (mwo, .inl (c_wo, 1875, .inl w_wo)), (mlu, .inl (c_lu, 20000, .inl w_lu)), (mfg, .inl (c_fg, 12, .inl o0_23342)), (mtm, .inl (c_tm, 16, .inl f_18716))] H ∧ va_D A [(o0, .inr (8, [.int x_th, .ref mwo, .ref mim, .ref mhi, .ref mlu, .ref mtp, .int x_td, .ref mfv, .int x_sz, .int x_at, .int x_fr, .int x_to, .int x_va, .int x_fk, .int x_fp, .ref mfr, .ref mwt, .int x_wt, .int x_op, .int x_jo, .ref mfg, .ref mpl, .long x_dr, .ref mtm, .ref mfa, .ref mqu, .ref mmo, .ref mwy, .ref mwn, .ref mma, .ref mwi, .ref mnu, .ref mmv])), (mwo, .inl (c_wo, 1875, .inl w_wo)), (mlu, .inl (c_lu, 20000, .inl w_lu)), (mfg, .inl (c_fg, 12, .inl o0_23342)), (mtm, .inl (c_tm, 16, .inl f_18716))] ∧ va_S A s.heap H locs ∧ lv_has ls 8 [(6, .int v.1), (5, .int v.2.1), (4, .int v.2.2), (7, .int y_22279), (0, .ref o0), (1, .int a1), (2, .int a2), (3, .int a3)]) (fun v H locs ls hI => ?_) (fun hj_176_23359 => ?_)
            ·
              obtain ⟨y_23357, y_23358, y_23359⟩ := v
              obtain ⟨b_y_23357, hP, hD, hS, hl⟩ := hI
              have b_y_23357 : (-1 : Int) ≤ y_23357.toInt ∧ y_23357.toInt ≤ 19999 := b_y_23357
              have hP : va_P (dC, dI) vwCl [(o0, .inr (8, [.int x_th, .ref mwo, .ref mim, .ref mhi, .ref mlu, .ref mtp, .int x_td, .ref mfv, .int x_sz, .int x_at, .int x_fr, .int x_to, .int x_va, .int x_fk, .int x_fp, .ref mfr, .ref mwt, .int x_wt, .int x_op, .int x_jo, .ref mfg, .ref mpl, .long x_dr, .ref mtm, .ref mfa, .ref mqu, .ref mmo, .ref mwy, .ref mwn, .ref mma, .ref mwi, .ref mnu, .ref mmv])), (mwo, .inl (c_wo, 1875, .inl w_wo)), (mlu, .inl (c_lu, 20000, .inl w_lu)), (mfg, .inl (c_fg, 12, .inl o0_23342)), (mtm, .inl (c_tm, 16, .inl f_18716))] H := hP
              have hD : va_D A [(o0, .inr (8, [.int x_th, .ref mwo, .ref mim, .ref mhi, .ref mlu, .ref mtp, .int x_td, .ref mfv, .int x_sz, .int x_at, .int x_fr, .int x_to, .int x_va, .int x_fk, .int x_fp, .ref mfr, .ref mwt, .int x_wt, .int x_op, .int x_jo, .ref mfg, .ref mpl, .long x_dr, .ref mtm, .ref mfa, .ref mqu, .ref mmo, .ref mwy, .ref mwn, .ref mma, .ref mwi, .ref mnu, .ref mmv])), (mwo, .inl (c_wo, 1875, .inl w_wo)), (mlu, .inl (c_lu, 20000, .inl w_lu)), (mfg, .inl (c_fg, 12, .inl o0_23342)), (mtm, .inl (c_tm, 16, .inl f_18716))] := hD
              have hl : lv_has ls 8 [(6, .int y_23357), (5, .int y_23358), (4, .int y_23359), (7, .int y_22279), (0, .ref o0), (1, .int a1), (2, .int a2), (3, .int a3)] := hl
              obtain ⟨z_23360, e_z_23360⟩ : ∃ y : Int32, y = y_22279 + 1 := ⟨_, rfl⟩
              refine lv_iinc (v := z_23360) (lv' := [(7, .int z_23360), (6, .int y_23357), (5, .int y_23358), (4, .int y_23359), (0, .ref o0), (1, .int a1), (2, .int a2), (3, .int a3)]) hx hb dX10_same_176 hl (k := 3) rfl (by rw [e_z_23360]; rfl) (by decide) rfl (fun ls hl => ?_)
              obtain ⟨q_z_23360, b_z_23360⟩ := ti_add (lo := 1) (hi := 20000) e_z_23360 rfl (by decide : (1 : Int32).toInt = 1) b_y_22279 (by decide : (1 : Int) ≤ (1 : Int32).toInt ∧ (1 : Int32).toInt ≤ 1) (by decide)
              refine lv_goto (tgt := 101) hx hb dX10_same_179 (by decide) ?_
              exact ih_101_23303 (z_23360, y_23357, y_23358, y_23359, o0_23342) _ _ _ ⟨(show (0 : Int) ≤ z_23360.toInt ∧ z_23360.toInt ≤ 20000 from (rg_w b_z_23360 (by decide) (by decide))), (show (-1 : Int) ≤ y_23357.toInt ∧ y_23357.toInt ≤ 19999 from b_y_23357), (show rg o0_23342 12 0 15 from ha_23343), hP, hD, hS, lv_sub hl [0, 1, 2, 3, 4, 5, 6, 7] rfl⟩ (show (20000 - z_23360.toInt).toNat < (20000 - y_22279.toInt).toNat by omega)
            ·
              refine lv_if_ne (tgt := 128) hx hb dX10_same_122 (by decide) (fun c_23345 => ?_) (fun c_23345 => ?_)
              ·
                have n_c_23345 : (r_23344.toInt : Int) ≠ 0 := c_ne rfl (by decide) c_23345
                have b_r_23344 : (1 : Int) ≤ r_23344.toInt ∧ r_23344.toInt ≤ 1 := r_ne1 b_r_23344 (by decide : (0 : Int) ≤ (0 : Int32).toInt ∧ (0 : Int32).toInt ≤ 0) n_c_23345 (by decide)
                obtain ⟨z_23361, e_z_23361⟩ : ∃ y : Int32, y = y_22282 + 1 := ⟨_, rfl⟩
                refine lv_iinc (v := z_23361) (lv' := [(4, .int z_23361), (7, .int y_22279), (6, .int y_22280), (5, .int y_22281), (0, .ref o0), (1, .int a1), (2, .int a2), (3, .int a3)]) hx hb dX10_same_128 hl (k := 3) rfl (by rw [e_z_23361]; rfl) (by decide) rfl (fun ls hl => ?_)
                refine lv_iload hx hb dX10_same_131 (lv_at hl 3 rfl) ?_
                refine lv_aload_n hx hb dX10_same_133 rfl (lv_at hl 4 rfl) ?_
                refine lv_iload_n hx hb dX10_same_134 rfl (lv_at hl 5 rfl) ?_
                refine lv_iload hx hb dX10_same_135 (lv_at hl 1 rfl) ?_
                refine vp_callSi (W.runV (As := [.int a1, .int y_22279]) (rest := [.int y_22281]) ⟨hx, hb, hml, hown, hts⟩ (kX10_isLucky l dC dI o0 x_th mwo mim mhi mlu mtp x_td mfv x_sz x_at x_fr x_to x_va x_fk x_fp mfr mwt x_wt x_op x_jo mfg mpl x_dr mtm mfa mqu mmo mwy mwn mma mwi mnu mmv c_wo c_lu w_wo w_lu ln bs tk lw li a1 y_22279 b_ln b_bs (rg_w b_tk (by decide) (by decide)) b_lw b_y_22279 (hw0) (hw1) (hw2) (hw3) (hw4) (hwz)) (cwV 2 hts gX10_same__X10_isLucky_V316 rfl rfl rfl hd_yX10_isLucky ⟨lel 1 3 rfl, lel 22 69 rfl⟩) ⟨pw_fb, rcv_X10 hK hP (q0 := 0) rfl, (pw_use hP hK hN [0, 1, 2] rfl [0, 1] rfl)⟩ rfl rfl hl.1 rfl (lv_room (Nat.le_of_ble_eq_true rfl)) dX10_same_137 ⟨lel 0 0 rfl, lel 0 0 rfl⟩) (fun r_23362 h_r_23362 => ?_)
                have b_r_23362 := h_r_23362
                have b_r_23362 : (0 : Int) ≤ r_23362.toInt ∧ r_23362.toInt ≤ 1 := b_r_23362
                refine cutW (σ := Int32) (pc2 := 148) (st2 := fun v => [.int v, .int y_22281]) (cells2 := 0) (slots2 := 0) (fun v H locs ls => ((0 : Int) ≤ v.toInt ∧ v.toInt ≤ 1) ∧ va_P (dC, dI) vwCl [(o0, .inr (8, [.int x_th, .ref mwo, .ref mim, .ref mhi, .ref mlu, .ref mtp, .int x_td, .ref mfv, .int x_sz, .int x_at, .int x_fr, .int x_to, .int x_va, .int x_fk, .int x_fp, .ref mfr, .ref mwt, .int x_wt, .int x_op, .int x_jo, .ref mfg, .ref mpl, .long x_dr, .ref mtm, .ref mfa, .ref mqu, .ref mmo, .ref mwy, .ref mwn, .ref mma, .ref mwi, .ref mnu, .ref mmv])), (mwo, .inl (c_wo, 1875, .inl w_wo)), (mlu, .inl (c_lu, 20000, .inl w_lu)), (mfg, .inl (c_fg, 12, .inl o0_23342)), (mtm, .inl (c_tm, 16, .inl f_18716))] H ∧ va_D A [(o0, .inr (8, [.int x_th, .ref mwo, .ref mim, .ref mhi, .ref mlu, .ref mtp, .int x_td, .ref mfv, .int x_sz, .int x_at, .int x_fr, .int x_to, .int x_va, .int x_fk, .int x_fp, .ref mfr, .ref mwt, .int x_wt, .int x_op, .int x_jo, .ref mfg, .ref mpl, .long x_dr, .ref mtm, .ref mfa, .ref mqu, .ref mmo, .ref mwy, .ref mwn, .ref mma, .ref mwi, .ref mnu, .ref mmv])), (mwo, .inl (c_wo, 1875, .inl w_wo)), (mlu, .inl (c_lu, 20000, .inl w_lu)), (mfg, .inl (c_fg, 12, .inl o0_23342)), (mtm, .inl (c_tm, 16, .inl f_18716))] ∧ va_S A s.heap H locs ∧ lv_has ls 8 [(4, .int z_23361), (7, .int y_22279), (6, .int y_22280), (5, .int y_22281), (0, .ref o0), (1, .int a1), (2, .int a2), (3, .int a3)]) (fun v H locs ls hI => ?_) (fun hj_148_23364 => ?_)
                ·
                  obtain ⟨y_23364, rfl⟩ : ∃ z, z = v := ⟨_, rfl⟩
                  obtain ⟨b_y_23364, hP, hD, hS, hl⟩ := hI
                  have b_y_23364 : (0 : Int) ≤ y_23364.toInt ∧ y_23364.toInt ≤ 1 := b_y_23364
                  have hP : va_P (dC, dI) vwCl [(o0, .inr (8, [.int x_th, .ref mwo, .ref mim, .ref mhi, .ref mlu, .ref mtp, .int x_td, .ref mfv, .int x_sz, .int x_at, .int x_fr, .int x_to, .int x_va, .int x_fk, .int x_fp, .ref mfr, .ref mwt, .int x_wt, .int x_op, .int x_jo, .ref mfg, .ref mpl, .long x_dr, .ref mtm, .ref mfa, .ref mqu, .ref mmo, .ref mwy, .ref mwn, .ref mma, .ref mwi, .ref mnu, .ref mmv])), (mwo, .inl (c_wo, 1875, .inl w_wo)), (mlu, .inl (c_lu, 20000, .inl w_lu)), (mfg, .inl (c_fg, 12, .inl o0_23342)), (mtm, .inl (c_tm, 16, .inl f_18716))] H := hP
                  have hD : va_D A [(o0, .inr (8, [.int x_th, .ref mwo, .ref mim, .ref mhi, .ref mlu, .ref mtp, .int x_td, .ref mfv, .int x_sz, .int x_at, .int x_fr, .int x_to, .int x_va, .int x_fk, .int x_fp, .ref mfr, .ref mwt, .int x_wt, .int x_op, .int x_jo, .ref mfg, .ref mpl, .long x_dr, .ref mtm, .ref mfa, .ref mqu, .ref mmo, .ref mwy, .ref mwn, .ref mma, .ref mwi, .ref mnu, .ref mmv])), (mwo, .inl (c_wo, 1875, .inl w_wo)), (mlu, .inl (c_lu, 20000, .inl w_lu)), (mfg, .inl (c_fg, 12, .inl o0_23342)), (mtm, .inl (c_tm, 16, .inl f_18716))] := hD
                  have hl : lv_has ls 8 [(4, .int z_23361), (7, .int y_22279), (6, .int y_22280), (5, .int y_22281), (0, .ref o0), (1, .int a1), (2, .int a2), (3, .int a3)] := hl
                  refine lv_iadd hx hb dX10_same_148 ?_
                  refine lv_topi (fun z_23365 e_z_23365 => ?_)
                  refine lv_istore (lv' := [(5, .int z_23365), (4, .int z_23361), (7, .int y_22279), (6, .int y_22280), (0, .ref o0), (1, .int a1), (2, .int a2), (3, .int a3)]) hx hb dX10_same_149 hl (by decide) rfl (fun ls hl => ?_)
                  refine lv_iload hx hb dX10_same_151 (lv_at hl 3 rfl) ?_
                  refine lv_iconst (v := (-1)) hx hb dX10_same_153 (by decide) ?_
                  refine cutW (σ := Int32) (pc2 := 174) (st2 := fun v => [.int v]) (cells2 := 0) (slots2 := 0) (fun v H locs ls => ((-1 : Int) ≤ v.toInt ∧ v.toInt ≤ 19999) ∧ va_P (dC, dI) vwCl [(o0, .inr (8, [.int x_th, .ref mwo, .ref mim, .ref mhi, .ref mlu, .ref mtp, .int x_td, .ref mfv, .int x_sz, .int x_at, .int x_fr, .int x_to, .int x_va, .int x_fk, .int x_fp, .ref mfr, .ref mwt, .int x_wt, .int x_op, .int x_jo, .ref mfg, .ref mpl, .long x_dr, .ref mtm, .ref mfa, .ref mqu, .ref mmo, .ref mwy, .ref mwn, .ref mma, .ref mwi, .ref mnu, .ref mmv])), (mwo, .inl (c_wo, 1875, .inl w_wo)), (mlu, .inl (c_lu, 20000, .inl w_lu)), (mfg, .inl (c_fg, 12, .inl o0_23342)), (mtm, .inl (c_tm, 16, .inl f_18716))] H ∧ va_D A [(o0, .inr (8, [.int x_th, .ref mwo, .ref mim, .ref mhi, .ref mlu, .ref mtp, .int x_td, .ref mfv, .int x_sz, .int x_at, .int x_fr, .int x_to, .int x_va, .int x_fk, .int x_fp, .ref mfr, .ref mwt, .int x_wt, .int x_op, .int x_jo, .ref mfg, .ref mpl, .long x_dr, .ref mtm, .ref mfa, .ref mqu, .ref mmo, .ref mwy, .ref mwn, .ref mma, .ref mwi, .ref mnu, .ref mmv])), (mwo, .inl (c_wo, 1875, .inl w_wo)), (mlu, .inl (c_lu, 20000, .inl w_lu)), (mfg, .inl (c_fg, 12, .inl o0_23342)), (mtm, .inl (c_tm, 16, .inl f_18716))] ∧ va_S A s.heap H locs ∧ lv_has ls 8 [(5, .int z_23365), (4, .int z_23361), (7, .int y_22279), (6, .int y_22280), (0, .ref o0), (1, .int a1), (2, .int a2), (3, .int a3)]) (fun v H locs ls hI => ?_) (fun hj_174_23369 => ?_)
                  ·
                    obtain ⟨y_23369, rfl⟩ : ∃ z, z = v := ⟨_, rfl⟩
                    obtain ⟨b_y_23369, hP, hD, hS, hl⟩ := hI
                    have b_y_23369 : (-1 : Int) ≤ y_23369.toInt ∧ y_23369.toInt ≤ 19999 := b_y_23369
                    have hP : va_P (dC, dI) vwCl [(o0, .inr (8, [.int x_th, .ref mwo, .ref mim, .ref mhi, .ref mlu, .ref mtp, .int x_td, .ref mfv, .int x_sz, .int x_at, .int x_fr, .int x_to, .int x_va, .int x_fk, .int x_fp, .ref mfr, .ref mwt, .int x_wt, .int x_op, .int x_jo, .ref mfg, .ref mpl, .long x_dr, .ref mtm, .ref mfa, .ref mqu, .ref mmo, .ref mwy, .ref mwn, .ref mma, .ref mwi, .ref mnu, .ref mmv])), (mwo, .inl (c_wo, 1875, .inl w_wo)), (mlu, .inl (c_lu, 20000, .inl w_lu)), (mfg, .inl (c_fg, 12, .inl o0_23342)), (mtm, .inl (c_tm, 16, .inl f_18716))] H := hP
                    have hD : va_D A [(o0, .inr (8, [.int x_th, .ref mwo, .ref mim, .ref mhi, .ref mlu, .ref mtp, .int x_td, .ref mfv, .int x_sz, .int x_at, .int x_fr, .int x_to, .int x_va, .int x_fk, .int x_fp, .ref mfr, .ref mwt, .int x_wt, .int x_op, .int x_jo, .ref mfg, .ref mpl, .long x_dr, .ref mtm, .ref mfa, .ref mqu, .ref mmo, .ref mwy, .ref mwn, .ref mma, .ref mwi, .ref mnu, .ref mmv])), (mwo, .inl (c_wo, 1875, .inl w_wo)), (mlu, .inl (c_lu, 20000, .inl w_lu)), (mfg, .inl (c_fg, 12, .inl o0_23342)), (mtm, .inl (c_tm, 16, .inl f_18716))] := hD
                    have hl : lv_has ls 8 [(5, .int z_23365), (4, .int z_23361), (7, .int y_22279), (6, .int y_22280), (0, .ref o0), (1, .int a1), (2, .int a2), (3, .int a3)] := hl
                    refine lv_istore (lv' := [(6, .int y_23369), (5, .int z_23365), (4, .int z_23361), (7, .int y_22279), (0, .ref o0), (1, .int a1), (2, .int a2), (3, .int a3)]) hx hb dX10_same_174 hl (by decide) rfl (fun ls hl => ?_)
                    exact hj_176_23359 (y_23369, z_23365, z_23361) _ _ _ ⟨(show (-1 : Int) ≤ y_23369.toInt ∧ y_23369.toInt ≤ 19999 from b_y_23369), hP, hD, hS, lv_sub hl [0, 1, 2, 3, 4, 5, 6, 7] rfl⟩
                  ·
                    refine lv_icmp_ne (tgt := 172) hx hb dX10_same_154 (by decide) (fun c_23366 => ?_) (fun c_23366 => ?_)
                    ·
                      have n_c_23366 : (y_22280.toInt : Int) ≠ (-1) := c_ne rfl (by decide) c_23366
                      have b_y_22280 : (0 : Int) ≤ y_22280.toInt ∧ y_22280.toInt ≤ 19999 := r_ne1 b_y_22280 (by decide : (-1 : Int) ≤ ((-1) : Int32).toInt ∧ ((-1) : Int32).toInt ≤ -1) n_c_23366 (by decide)
                      refine lv_iload hx hb dX10_same_172 (lv_at hl 3 rfl) ?_
                      exact hj_174_23369 y_22280 _ _ _ ⟨(show (-1 : Int) ≤ y_22280.toInt ∧ y_22280.toInt ≤ 19999 from (rg_w b_y_22280 (by decide) (by decide))), hP, hD, hS, lv_sub hl [0, 1, 2, 3, 4, 5, 6, 7] rfl⟩
                    ·
                      have n_c_23366 : (y_22280.toInt : Int) = (-1) := c_eq rfl (by decide) c_23366
                      have b_y_22280 : (-1 : Int) ≤ y_22280.toInt ∧ y_22280.toInt ≤ -1 := r_eq1 b_y_22280 (by decide : (-1 : Int) ≤ ((-1) : Int32).toInt ∧ ((-1) : Int32).toInt ≤ -1) n_c_23366 (by decide)
                      refine lv_aload_n hx hb dX10_same_157 rfl (lv_at hl 4 rfl) ?_
                      refine lv_iload_n hx hb dX10_same_158 rfl (lv_at hl 5 rfl) ?_
                      refine lv_iload hx hb dX10_same_159 (lv_at hl 2 rfl) ?_
                      refine vp_callSi (W.runV (As := [.int a1, .int y_22279]) (rest := []) ⟨hx, hb, hml, hown, hts⟩ (kX10_isLucky l dC dI o0 x_th mwo mim mhi mlu mtp x_td mfv x_sz x_at x_fr x_to x_va x_fk x_fp mfr mwt x_wt x_op x_jo mfg mpl x_dr mtm mfa mqu mmo mwy mwn mma mwi mnu mmv c_wo c_lu w_wo w_lu ln bs tk lw li a1 y_22279 b_ln b_bs (rg_w b_tk (by decide) (by decide)) b_lw b_y_22279 (hw0) (hw1) (hw2) (hw3) (hw4) (hwz)) (cwV 2 hts gX10_same__X10_isLucky_V316 rfl rfl rfl hd_yX10_isLucky ⟨lel 1 3 rfl, lel 22 69 rfl⟩) ⟨pw_fb, rcv_X10 hK hP (q0 := 0) rfl, (pw_use hP hK hN [0, 1, 2] rfl [0, 1] rfl)⟩ rfl rfl hl.1 rfl (lv_room (Nat.le_of_ble_eq_true rfl)) dX10_same_161 ⟨lel 0 0 rfl, lel 0 0 rfl⟩) (fun r_23370 h_r_23370 => ?_)
                      have b_r_23370 := h_r_23370
                      have b_r_23370 : (0 : Int) ≤ r_23370.toInt ∧ r_23370.toInt ≤ 1 := b_r_23370
                      refine lv_if_eq (tgt := 172) hx hb dX10_same_164 (by decide) (fun c_23371 => ?_) (fun c_23371 => ?_)
                      ·
                        have n_c_23371 : (r_23370.toInt : Int) = 0 := c_eq rfl (by decide) c_23371
                        have b_r_23370 : (0 : Int) ≤ r_23370.toInt ∧ r_23370.toInt ≤ 0 := r_eq1 b_r_23370 (by decide : (0 : Int) ≤ (0 : Int32).toInt ∧ (0 : Int32).toInt ≤ 0) n_c_23371 (by decide)
                        refine lv_iload hx hb dX10_same_172 (lv_at hl 3 rfl) ?_
                        exact hj_174_23369 y_22280 _ _ _ ⟨(show (-1 : Int) ≤ y_22280.toInt ∧ y_22280.toInt ≤ 19999 from (rg_w b_y_22280 (by decide) (by decide))), hP, hD, hS, lv_sub hl [0, 1, 2, 3, 4, 5, 6, 7] rfl⟩
                      ·
                        have n_c_23371 : (r_23370.toInt : Int) ≠ 0 := c_ne rfl (by decide) c_23371
                        have b_r_23370 : (1 : Int) ≤ r_23370.toInt ∧ r_23370.toInt ≤ 1 := r_ne1 b_r_23370 (by decide : (0 : Int) ≤ (0 : Int32).toInt ∧ (0 : Int32).toInt ≤ 0) n_c_23371 (by decide)
                        refine lv_iload hx hb dX10_same_167 (lv_at hl 2 rfl) ?_
                        refine lv_goto (tgt := 174) hx hb dX10_same_169 (by decide) ?_
                        exact hj_174_23369 y_22279 _ _ _ ⟨(show (-1 : Int) ≤ y_22279.toInt ∧ y_22279.toInt ≤ 19999 from (rg_w b_y_22279 (by decide) (by decide))), hP, hD, hS, lv_sub hl [0, 1, 2, 3, 4, 5, 6, 7] rfl⟩
                ·
                  refine lv_if_eq (tgt := 147) hx hb dX10_same_140 (by decide) (fun c_23363 => ?_) (fun c_23363 => ?_)
                  ·
                    have n_c_23363 : (r_23362.toInt : Int) = 0 := c_eq rfl (by decide) c_23363
                    have b_r_23362 : (0 : Int) ≤ r_23362.toInt ∧ r_23362.toInt ≤ 0 := r_eq1 b_r_23362 (by decide : (0 : Int) ≤ (0 : Int32).toInt ∧ (0 : Int32).toInt ≤ 0) n_c_23363 (by decide)
                    refine lv_iconst (v := 0) hx hb dX10_same_147 (by decide) ?_
                    exact hj_148_23364 (0 : Int32) _ _ _ ⟨(show (0 : Int) ≤ (0 : Int32).toInt ∧ (0 : Int32).toInt ≤ 1 from (rg_w (by decide : (0 : Int) ≤ (0 : Int32).toInt ∧ (0 : Int32).toInt ≤ 0) (by decide) (by decide))), hP, hD, hS, lv_sub hl [0, 1, 2, 3, 4, 5, 6, 7] rfl⟩
                  ·
                    have n_c_23363 : (r_23362.toInt : Int) ≠ 0 := c_ne rfl (by decide) c_23363
                    have b_r_23362 : (1 : Int) ≤ r_23362.toInt ∧ r_23362.toInt ≤ 1 := r_ne1 b_r_23362 (by decide : (0 : Int) ≤ (0 : Int32).toInt ∧ (0 : Int32).toInt ≤ 0) n_c_23363 (by decide)
                    refine lv_iconst (v := 1) hx hb dX10_same_143 (by decide) ?_
                    refine lv_goto (tgt := 148) hx hb dX10_same_144 (by decide) ?_
                    exact hj_148_23364 (1 : Int32) _ _ _ ⟨(show (0 : Int) ≤ (1 : Int32).toInt ∧ (1 : Int32).toInt ≤ 1 from (rg_w (by decide : (1 : Int) ≤ (1 : Int32).toInt ∧ (1 : Int32).toInt ≤ 1) (by decide) (by decide))), hP, hD, hS, lv_sub hl [0, 1, 2, 3, 4, 5, 6, 7] rfl⟩
              ·
                have n_c_23345 : (r_23344.toInt : Int) = 0 := c_eq rfl (by decide) c_23345
                have b_r_23344 : (0 : Int) ≤ r_23344.toInt ∧ r_23344.toInt ≤ 0 := r_eq1 b_r_23344 (by decide : (0 : Int) ≤ (0 : Int32).toInt ∧ (0 : Int32).toInt ≤ 0) n_c_23345 (by decide)
                refine lv_goto (tgt := 176) hx hb dX10_same_125 (by decide) ?_
                exact hj_176_23359 (y_22280, y_22281, y_22282) _ _ _ ⟨(show (-1 : Int) ≤ y_22280.toInt ∧ y_22280.toInt ≤ 19999 from b_y_22280), hP, hD, hS, lv_sub hl [1, 2, 3, 0, 4, 5, 6, 7] rfl⟩
        ·
          have n_c_22213 : (y_18715.toInt : Int) < ln.toInt := c_nge rfl rfl c_22213
          have b_y_18715 : (0 : Int) ≤ y_18715.toInt ∧ y_18715.toInt ≤ 11 := r_lt1 b_y_18715 b_ln n_c_22213 (by decide)
          have b_ln : (1 : Int) ≤ ln.toInt ∧ ln.toInt ≤ 12 := r_lt2 b_y_18715 b_ln n_c_22213 (by decide)
          refine lv_aload_n hx hb dX10_same_67 rfl (lv_at hl 1 rfl) ?_
          refine va_get (D := (dC, dI)) (ci := 8) (v := .ref mtm) (C := RX10) (T := TX10) (N := 33) hx hb hts iX10_same_X10 hown hK hP 0 rfl rfl 23 (by decide) (hts (.fieldLink RX10 46 "LuckyTicketModel" "times" "[I") (List.mem_of_getElem? (i := 11) rfl)) (fun _ h9 => h9) rfl dX10_same_68 ?_
          refine lv_aload_n hx hb dX10_same_71 rfl (lv_at hl 1 rfl) ?_
          refine va_get (D := (dC, dI)) (ci := 8) (v := .ref mfg) (C := RX10) (T := TX10) (N := 33) hx hb hts iX10_same_X10 hown hK hP 0 rfl rfl 20 (by decide) (hts (.fieldLink RX10 40 "LuckyTicketModel" "figures" "[I") (List.mem_of_getElem? (i := 13) rfl)) (fun _ h9 => h9) rfl dX10_same_72 ?_
          refine lv_iload hx hb dX10_same_75 (lv_at hl 0 rfl) ?_
          refine va_iald hx hb hK hP 3 2 rfl rfl (vp_in_b b_y_18715 (by decide) (by decide)) dX10_same_77 ?_
          refine lv_topi (fun z_23372 e_z_23372 => ?_)
          have b_z_23372 : (0 : Int) ≤ z_23372.toInt ∧ z_23372.toInt ≤ 15 := rg_at ha_11700 (vp_in_b b_y_18715 (by decide) (by decide)) e_z_23372
          refine lv_dup2_11 hx hb dX10_same_78 rfl rfl ?_
          refine va_iald hx hb hK hP 4 3 rfl rfl (vp_in_b b_z_23372 (by decide) (by decide)) dX10_same_79 ?_
          refine lv_topi (fun z_23373 e_z_23373 => ?_)
          refine lv_iconst (v := 1) hx hb dX10_same_80 (by decide) ?_
          refine lv_iadd hx hb dX10_same_81 ?_
          refine lv_topi (fun z_23374 e_z_23374 => ?_)
          refine va_iast hx hb hK hP hD hS 4 3 rfl rfl (vp_in_b b_z_23372 (by decide) (by decide)) dX10_same_82 (fun H locs hP hD hS => ?_)
          have hP : va_P (dC, dI) vwCl [(o0, .inr (8, [.int x_th, .ref mwo, .ref mim, .ref mhi, .ref mlu, .ref mtp, .int x_td, .ref mfv, .int x_sz, .int x_at, .int x_fr, .int x_to, .int x_va, .int x_fk, .int x_fp, .ref mfr, .ref mwt, .int x_wt, .int x_op, .int x_jo, .ref mfg, .ref mpl, .long x_dr, .ref mtm, .ref mfa, .ref mqu, .ref mmo, .ref mwy, .ref mwn, .ref mma, .ref mwi, .ref mnu, .ref mmv])), (mwo, .inl (c_wo, 1875, .inl w_wo)), (mlu, .inl (c_lu, 20000, .inl w_lu)), (mfg, .inl (c_fg, 12, .inl o0_11699)), (mtm, .inl (c_tm, 16, .inl (upd f_18716 (z_23372 : Int32).toNatClampNeg z_23374)))] H := hP
          have hD : va_D A [(o0, .inr (8, [.int x_th, .ref mwo, .ref mim, .ref mhi, .ref mlu, .ref mtp, .int x_td, .ref mfv, .int x_sz, .int x_at, .int x_fr, .int x_to, .int x_va, .int x_fk, .int x_fp, .ref mfr, .ref mwt, .int x_wt, .int x_op, .int x_jo, .ref mfg, .ref mpl, .long x_dr, .ref mtm, .ref mfa, .ref mqu, .ref mmo, .ref mwy, .ref mwn, .ref mma, .ref mwi, .ref mnu, .ref mmv])), (mwo, .inl (c_wo, 1875, .inl w_wo)), (mlu, .inl (c_lu, 20000, .inl w_lu)), (mfg, .inl (c_fg, 12, .inl o0_11699)), (mtm, .inl (c_tm, 16, .inl (upd f_18716 (z_23372 : Int32).toNatClampNeg z_23374)))] := hD
          generalize (upd f_18716 (z_23372 : Int32).toNatClampNeg z_23374) = f_23375 at hP hD
          have hP : va_P (dC, dI) vwCl [(o0, .inr (8, [.int x_th, .ref mwo, .ref mim, .ref mhi, .ref mlu, .ref mtp, .int x_td, .ref mfv, .int x_sz, .int x_at, .int x_fr, .int x_to, .int x_va, .int x_fk, .int x_fp, .ref mfr, .ref mwt, .int x_wt, .int x_op, .int x_jo, .ref mfg, .ref mpl, .long x_dr, .ref mtm, .ref mfa, .ref mqu, .ref mmo, .ref mwy, .ref mwn, .ref mma, .ref mwi, .ref mnu, .ref mmv])), (mwo, .inl (c_wo, 1875, .inl w_wo)), (mlu, .inl (c_lu, 20000, .inl w_lu)), (mfg, .inl (c_fg, 12, .inl o0_11699)), (mtm, .inl (c_tm, 16, .inl f_23375))] H := hP
          have hD : va_D A [(o0, .inr (8, [.int x_th, .ref mwo, .ref mim, .ref mhi, .ref mlu, .ref mtp, .int x_td, .ref mfv, .int x_sz, .int x_at, .int x_fr, .int x_to, .int x_va, .int x_fk, .int x_fp, .ref mfr, .ref mwt, .int x_wt, .int x_op, .int x_jo, .ref mfg, .ref mpl, .long x_dr, .ref mtm, .ref mfa, .ref mqu, .ref mmo, .ref mwy, .ref mwn, .ref mma, .ref mwi, .ref mnu, .ref mmv])), (mwo, .inl (c_wo, 1875, .inl w_wo)), (mlu, .inl (c_lu, 20000, .inl w_lu)), (mfg, .inl (c_fg, 12, .inl o0_11699)), (mtm, .inl (c_tm, 16, .inl f_23375))] := hD
          obtain ⟨z_23376, e_z_23376⟩ : ∃ y : Int32, y = y_18715 + 1 := ⟨_, rfl⟩
          refine lv_iinc (v := z_23376) (lv' := [(4, .int z_23376), (0, .ref o0), (1, .int a1), (2, .int a2), (3, .int a3)]) hx hb dX10_same_83 hl (k := 0) rfl (by rw [e_z_23376]; rfl) (by decide) rfl (fun ls hl => ?_)
          obtain ⟨q_z_23376, b_z_23376⟩ := ti_add (lo := 1) (hi := 12) e_z_23376 rfl (by decide : (1 : Int32).toInt = 1) b_y_18715 (by decide : (1 : Int) ≤ (1 : Int32).toInt ∧ (1 : Int32).toInt ≤ 1) (by decide)
          refine lv_goto (tgt := 56) hx hb dX10_same_86 (by decide) ?_
          exact ih_56_22211 (z_23376, f_23375) _ _ _ ⟨(show (0 : Int) ≤ z_23376.toInt ∧ z_23376.toInt ≤ 12 from (rg_w b_z_23376 (by decide) (by decide))), hP, hD, hS, lv_sub hl [0, 1, 2, 3, 4] rfl⟩ (show (12 - z_23376.toInt).toNat < (12 - y_18715.toInt).toNat by omega)
      ·
        have n_c_17547 : (y_11704.toInt : Int) < 16 := c_nge rfl (by decide) c_17547
        have b_y_11704 : (0 : Int) ≤ y_11704.toInt ∧ y_11704.toInt ≤ 15 := r_lt1 b_y_11704 (by decide : (16 : Int) ≤ (16 : Int32).toInt ∧ (16 : Int32).toInt ≤ 16) n_c_17547 (by decide)
        refine lv_aload_n hx hb dX10_same_39 rfl (lv_at hl 1 rfl) ?_
        refine va_get (D := (dC, dI)) (ci := 8) (v := .ref mtm) (C := RX10) (T := TX10) (N := 33) hx hb hts iX10_same_X10 hown hK hP 0 rfl rfl 23 (by decide) (hts (.fieldLink RX10 46 "LuckyTicketModel" "times" "[I") (List.mem_of_getElem? (i := 11) rfl)) (fun _ h9 => h9) rfl dX10_same_40 ?_
        refine lv_iload hx hb dX10_same_43 (lv_at hl 0 rfl) ?_
        refine lv_iconst (v := 0) hx hb dX10_same_45 (by decide) ?_
        refine va_iast hx hb hK hP hD hS 4 3 rfl rfl (vp_in_b b_y_11704 (by decide) (by decide)) dX10_same_46 (fun H locs hP hD hS => ?_)
        have hP : va_P (dC, dI) vwCl [(o0, .inr (8, [.int x_th, .ref mwo, .ref mim, .ref mhi, .ref mlu, .ref mtp, .int x_td, .ref mfv, .int x_sz, .int x_at, .int x_fr, .int x_to, .int x_va, .int x_fk, .int x_fp, .ref mfr, .ref mwt, .int x_wt, .int x_op, .int x_jo, .ref mfg, .ref mpl, .long x_dr, .ref mtm, .ref mfa, .ref mqu, .ref mmo, .ref mwy, .ref mwn, .ref mma, .ref mwi, .ref mnu, .ref mmv])), (mwo, .inl (c_wo, 1875, .inl w_wo)), (mlu, .inl (c_lu, 20000, .inl w_lu)), (mfg, .inl (c_fg, 12, .inl o0_11699)), (mtm, .inl (c_tm, 16, .inl (upd f_11705 (y_11704 : Int32).toNatClampNeg 0)))] H := hP
        have hD : va_D A [(o0, .inr (8, [.int x_th, .ref mwo, .ref mim, .ref mhi, .ref mlu, .ref mtp, .int x_td, .ref mfv, .int x_sz, .int x_at, .int x_fr, .int x_to, .int x_va, .int x_fk, .int x_fp, .ref mfr, .ref mwt, .int x_wt, .int x_op, .int x_jo, .ref mfg, .ref mpl, .long x_dr, .ref mtm, .ref mfa, .ref mqu, .ref mmo, .ref mwy, .ref mwn, .ref mma, .ref mwi, .ref mnu, .ref mmv])), (mwo, .inl (c_wo, 1875, .inl w_wo)), (mlu, .inl (c_lu, 20000, .inl w_lu)), (mfg, .inl (c_fg, 12, .inl o0_11699)), (mtm, .inl (c_tm, 16, .inl (upd f_11705 (y_11704 : Int32).toNatClampNeg 0)))] := hD
        generalize (upd f_11705 (y_11704 : Int32).toNatClampNeg 0) = f_23377 at hP hD
        have hP : va_P (dC, dI) vwCl [(o0, .inr (8, [.int x_th, .ref mwo, .ref mim, .ref mhi, .ref mlu, .ref mtp, .int x_td, .ref mfv, .int x_sz, .int x_at, .int x_fr, .int x_to, .int x_va, .int x_fk, .int x_fp, .ref mfr, .ref mwt, .int x_wt, .int x_op, .int x_jo, .ref mfg, .ref mpl, .long x_dr, .ref mtm, .ref mfa, .ref mqu, .ref mmo, .ref mwy, .ref mwn, .ref mma, .ref mwi, .ref mnu, .ref mmv])), (mwo, .inl (c_wo, 1875, .inl w_wo)), (mlu, .inl (c_lu, 20000, .inl w_lu)), (mfg, .inl (c_fg, 12, .inl o0_11699)), (mtm, .inl (c_tm, 16, .inl f_23377))] H := hP
        have hD : va_D A [(o0, .inr (8, [.int x_th, .ref mwo, .ref mim, .ref mhi, .ref mlu, .ref mtp, .int x_td, .ref mfv, .int x_sz, .int x_at, .int x_fr, .int x_to, .int x_va, .int x_fk, .int x_fp, .ref mfr, .ref mwt, .int x_wt, .int x_op, .int x_jo, .ref mfg, .ref mpl, .long x_dr, .ref mtm, .ref mfa, .ref mqu, .ref mmo, .ref mwy, .ref mwn, .ref mma, .ref mwi, .ref mnu, .ref mmv])), (mwo, .inl (c_wo, 1875, .inl w_wo)), (mlu, .inl (c_lu, 20000, .inl w_lu)), (mfg, .inl (c_fg, 12, .inl o0_11699)), (mtm, .inl (c_tm, 16, .inl f_23377))] := hD
        obtain ⟨z_23378, e_z_23378⟩ : ∃ y : Int32, y = y_11704 + 1 := ⟨_, rfl⟩
        refine lv_iinc (v := z_23378) (lv' := [(4, .int z_23378), (0, .ref o0), (1, .int a1), (2, .int a2), (3, .int a3)]) hx hb dX10_same_47 hl (k := 0) rfl (by rw [e_z_23378]; rfl) (by decide) rfl (fun ls hl => ?_)
        obtain ⟨q_z_23378, b_z_23378⟩ := ti_add (lo := 1) (hi := 16) e_z_23378 rfl (by decide : (1 : Int32).toInt = 1) b_y_11704 (by decide : (1 : Int) ≤ (1 : Int32).toInt ∧ (1 : Int32).toInt ≤ 1) (by decide)
        refine lv_goto (tgt := 32) hx hb dX10_same_50 (by decide) ?_
        exact ih_32_17546 (z_23378, f_23377) _ _ _ ⟨(show (0 : Int) ≤ z_23378.toInt ∧ z_23378.toInt ≤ 16 from (rg_w b_z_23378 (by decide) (by decide))), hP, hD, hS, lv_sub hl [0, 1, 2, 3, 4] rfl⟩ (show (16 - z_23378.toInt).toNat < (16 - y_11704.toInt).toNat by omega)
    ·
      have n_c_11695 : (r_11694.toInt : Int) = 0 := c_eq rfl (by decide) c_11695
      have b_r_11694 : (0 : Int) ≤ r_11694.toInt ∧ r_11694.toInt ≤ 0 := r_eq1 b_r_11694 (by decide : (0 : Int) ≤ (0 : Int32).toInt ∧ (0 : Int32).toInt ≤ 0) n_c_11695 (by decide)
      refine lv_bipush (v := (-2)) hx hb dX10_same_21 (by decide) ?_
      have hP9 := hP.sub (ws' := [(o0, .inr (8, [.int x_th, .ref mwo, .ref mim, .ref mhi, .ref mlu, .ref mtp, .int x_td, .ref mfv, .int x_sz, .int x_at, .int x_fr, .int x_to, .int x_va, .int x_fk, .int x_fp, .ref mfr, .ref mwt, .int x_wt, .int x_op, .int x_jo, .ref mfg, .ref mpl, .long x_dr, .ref mtm, .ref mfa, .ref mqu, .ref mmo, .ref mwy, .ref mwn, .ref mma, .ref mwi, .ref mnu, .ref mmv])), (mwo, .inl (c_wo, 1875, .inl w_wo)), (mlu, .inl (c_lu, 20000, .inl w_lu)), (mfg, .inl (c_fg, 12, .inl w_fg)), (mtm, .inl (c_tm, 16, .inl w_tm))]) [0, 1, 2, 3, 4] rfl
      have hD9 := hD.sub (ws' := [(o0, .inr (8, [.int x_th, .ref mwo, .ref mim, .ref mhi, .ref mlu, .ref mtp, .int x_td, .ref mfv, .int x_sz, .int x_at, .int x_fr, .int x_to, .int x_va, .int x_fk, .int x_fp, .ref mfr, .ref mwt, .int x_wt, .int x_op, .int x_jo, .ref mfg, .ref mpl, .long x_dr, .ref mtm, .ref mfa, .ref mqu, .ref mmo, .ref mwy, .ref mwn, .ref mma, .ref mwi, .ref mnu, .ref mmv])), (mwo, .inl (c_wo, 1875, .inl w_wo)), (mlu, .inl (c_lu, 20000, .inl w_lu)), (mfg, .inl (c_fg, 12, .inl w_fg)), (mtm, .inl (c_tm, 16, .inl w_tm))]) [0, 1, 2, 3, 4] (by decide) rfl
      have hK9 := hK.sub (tys' := [(c_wo, .int), (c_lu, .int), (c_fg, .int), (c_tm, .int)]) [0, 1, 2, 3] rfl
      exact W.iret (v := (-2)) hx hb hr (fun t ht hW => ⟨⟨(-2), (), rfl, trivial, w_fg, w_tm, ha_mfg, by rw [ht]; exact hP9, va_K.moved hW.alike hK9, hD9⟩, hS.F ht⟩) hS.2.2 dX10_same_23
