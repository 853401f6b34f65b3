theorem dX10_waits_0 : decode cX10_waits 0 = .ok (.aload_n 0, 1) := by decide +kernel
theorem dX10_waits_1 : decode cX10_waits 1 = .ok (.iload_n 1, 1) := by decide +kernel
theorem dX10_waits_2 : decode cX10_waits 2 = .ok (.iload_n 2, 1) := by decide +kernel
theorem dX10_waits_3 : decode cX10_waits 3 = .ok (.invokevirtual 313, 3) := by decide +kernel
theorem dX10_waits_6 : decode cX10_waits 6 = .ok (.ifCond .eq 10, 3) := by decide +kernel
theorem dX10_waits_9 : decode cX10_waits 9 = .ok (.iload_n 3, 1) := by decide +kernel
theorem dX10_waits_10 : decode cX10_waits 10 = .ok (.invokestatic 336, 3) := by decide +kernel
theorem dX10_waits_13 : decode cX10_waits 13 = .ok (.ifCond .ne 6, 3) := by decide +kernel
theorem dX10_waits_16 : decode cX10_waits 16 = .ok (.bipush (-2), 2) := by decide +kernel
theorem dX10_waits_18 : decode cX10_waits 18 = .ok (.ireturn, 1) := by decide +kernel
theorem dX10_waits_19 : decode cX10_waits 19 = .ok (.iload_n 2, 1) := by decide +kernel
theorem dX10_waits_20 : decode cX10_waits 20 = .ok (.istore 4, 2) := by decide +kernel
theorem dX10_waits_22 : decode cX10_waits 22 = .ok (.iconst 1, 1) := by decide +kernel
theorem dX10_waits_23 : decode cX10_waits 23 = .ok (.istore 5, 2) := by decide +kernel
theorem dX10_waits_25 : decode cX10_waits 25 = .ok (.iload 5, 2) := by decide +kernel
theorem dX10_waits_27 : decode cX10_waits 27 = .ok (.aload_n 0, 1) := by decide +kernel
theorem dX10_waits_28 : decode cX10_waits 28 = .ok (.getfield 9, 3) := by decide +kernel
theorem dX10_waits_31 : decode cX10_waits 31 = .ok (.iconst 2, 1) := by decide +kernel
theorem dX10_waits_32 : decode cX10_waits 32 = .ok (.iaload, 1) := by decide +kernel
theorem dX10_waits_33 : decode cX10_waits 33 = .ok (.if_icmp .gt 31, 3) := by decide +kernel
theorem dX10_waits_36 : decode cX10_waits 36 = .ok (.aload_n 0, 1) := by decide +kernel
theorem dX10_waits_37 : decode cX10_waits 37 = .ok (.iload 4, 2) := by decide +kernel
theorem dX10_waits_39 : decode cX10_waits 39 = .ok (.iload_n 3, 1) := by decide +kernel
theorem dX10_waits_40 : decode cX10_waits 40 = .ok (.invokevirtual 339, 3) := by decide +kernel
theorem dX10_waits_43 : decode cX10_waits 43 = .ok (.istore 4, 2) := by decide +kernel
theorem dX10_waits_45 : decode cX10_waits 45 = .ok (.aload_n 0, 1) := by decide +kernel
theorem dX10_waits_46 : decode cX10_waits 46 = .ok (.iload_n 1, 1) := by decide +kernel
theorem dX10_waits_47 : decode cX10_waits 47 = .ok (.iload 4, 2) := by decide +kernel
theorem dX10_waits_49 : decode cX10_waits 49 = .ok (.invokevirtual 316, 3) := by decide +kernel
theorem dX10_waits_52 : decode cX10_waits 52 = .ok (.ifCond .eq 6, 3) := by decide +kernel
theorem dX10_waits_55 : decode cX10_waits 55 = .ok (.iload 5, 2) := by decide +kernel
theorem dX10_waits_57 : decode cX10_waits 57 = .ok (.ireturn, 1) := by decide +kernel
theorem dX10_waits_58 : decode cX10_waits 58 = .ok (.iinc 5 1, 3) := by decide +kernel
theorem dX10_waits_61 : decode cX10_waits 61 = .ok (.goto (-36), 3) := by decide +kernel
theorem dX10_waits_64 : decode cX10_waits 64 = .ok (.iconst (-1), 1) := by decide +kernel
theorem dX10_waits_65 : decode cX10_waits 65 = .ok (.ireturn, 1) := by decide +kernel
theorem hd_yX10_waits : yX10_waits.cls = RX10 ∧ yX10_waits.cls ≠ "java/lang/invoke/MethodHandle" ∧ yX10_waits.cls ≠ "java/lang/invoke/VarHandle" ∧ (parseMethodDescriptor yX10_waits.desc).map (fun d => d.parameters.length) = some 3 := by decide +kernel
def uX10_waits : List Cond := List.cons (.code yX10_waits cX10_waits 6 (some .int)) (HAppend.hAppend ([.methodLink RX10 313 yX10_isBoth, .instanceMethod yX10_isBoth, .selects RX10 yX10_isBoth yX10_isBoth, .initialized RX10, .methodLink RX10 336 yX10_isStep, .static yX10_isStep, .fieldLink RX10 9 "LuckyTicketModel" "world" "[I", .methodLink RX10 339 yX10_goesOn, .instanceMethod yX10_goesOn, .selects RX10 yX10_goesOn yX10_goesOn, .methodLink RX10 316 yX10_isLucky, .instanceMethod yX10_isLucky, .selects RX10 yX10_isLucky yX10_isLucky] : List Cond) (HAppend.hAppend uX10_isBoth (HAppend.hAppend uX10_isStep (HAppend.hAppend uX10_goesOn (HAppend.hAppend uX10_isLucky wsX100)))))
theorem iX10_waits_X10 : ∀ w ∈ wsX100, w ∈ uX10_waits := fun _ h => (List.mem_cons_of_mem _ (List.mem_append_right _ (List.mem_append_right _ (List.mem_append_right _ (List.mem_append_right _ (List.mem_append_right _ h))))))
theorem guX10_waits : GU uX10_waits := gu_cons (gu_app (by decide +kernel) (gu_ap guX10_isBoth (gu_ap guX10_isStep (gu_ap guX10_goesOn (gu_ap guX10_isLucky gws_X10)))))
theorem gX10_waits__X10_isBoth_V313 : GoodIn uX10_waits (wsV RX10 313 RX10 yX10_isBoth uX10_isBoth) := gin_V (List.mem_of_getElem? (i := 1) rfl) (List.mem_of_getElem? (i := 2) rfl) (List.mem_of_getElem? (i := 3) rfl) (List.mem_of_getElem? (i := 4) rfl) (fun _ h => (List.mem_cons_of_mem _ (List.mem_append_right _ (List.mem_append_left _ h)))) guX10_isBoth
theorem gX10_waits__X10_isStep_S336 : GoodIn uX10_waits (va_wsS RX10 336 yX10_isStep uX10_isStep) := gin_S (List.mem_of_getElem? (i := 5) rfl) (List.mem_of_getElem? (i := 6) rfl) (List.mem_of_getElem? (i := 4) rfl) (fun _ h => (List.mem_cons_of_mem _ (List.mem_append_right _ (List.mem_append_right _ (List.mem_append_left _ h))))) guX10_isStep
theorem gX10_waits__X10_goesOn_V339 : GoodIn uX10_waits (wsV RX10 339 RX10 yX10_goesOn uX10_goesOn) := gin_V (List.mem_of_getElem? (i := 8) rfl) (List.mem_of_getElem? (i := 9) rfl) (List.mem_of_getElem? (i := 10) rfl) (List.mem_of_getElem? (i := 4) rfl) (fun _ h => (List.mem_cons_of_mem _ (List.mem_append_right _ (List.mem_append_right _ (List.mem_append_right _ (List.mem_append_left _ h)))))) guX10_goesOn
theorem gX10_waits__X10_isLucky_V316 : GoodIn uX10_waits (wsV RX10 316 RX10 yX10_isLucky uX10_isLucky) := gin_V (List.mem_of_getElem? (i := 11) rfl) (List.mem_of_getElem? (i := 12) rfl) (List.mem_of_getElem? (i := 13) rfl) (List.mem_of_getElem? (i := 4) rfl) (fun _ h => (List.mem_cons_of_mem _ (List.mem_append_right _ (List.mem_append_right _ (List.mem_append_right _ (List.mem_append_right _ (List.mem_append_left _ h))))))) guX10_isLucky
set_option maxHeartbeats 4000000 in
set_option maxRecDepth 100000 in
theorem kX10_waits (l : Launch) (dC : Nat → ClassId) (dI : Nat → Nat → Nat) (o0 : Nat) (x_th : Int32) (mwo : Nat) (mim : Nat) (mhi : Nat) (mlu : Nat) (mtp : Nat) (x_td : Int32) (mfv : Nat) (x_sz : Int32) (x_at : Int32) (x_fr : Int32) (x_to : Int32) (x_va : Int32) (x_fk : Int32) (x_fp : Int32) (mfr : Nat) (mwt : Nat) (x_wt : Int32) (x_op : Int32) (x_jo : Int32) (mfg : Nat) (mpl : Nat) (x_dr : Int64) (mtm : Nat) (mfa : Nat) (mqu : Nat) (mmo : Nat) (mwy : Nat) (mwn : Nat) (mma : Nat) (mwi : Nat) (mnu : Nat) (mmv : Nat) (c_wo : ClassId) (c_lu : ClassId) (w_wo : Nat → Int32) (w_lu : Nat → Int32) (ln : Int32) (bs : Int32) (tk : Int32) (lw : Int32) (li : Int32) (a1 : Int32) (a2 : Int32) (a3 : Int32) (b_ln : (0 : Int) ≤ ln.toInt ∧ ln.toInt ≤ 12) (b_bs : (0 : Int) ≤ bs.toInt ∧ bs.toInt ≤ 16) (b_tk : (0 : Int) ≤ tk.toInt ∧ tk.toInt ≤ 20000) (b_lw : (0 : Int) ≤ lw.toInt ∧ lw.toInt ≤ 9) (hw0 : w_wo 0 = ln) (hw1 : w_wo 1 = bs) (hw2 : w_wo 2 = tk) (hw3 : w_wo 3 = lw) (hw4 : w_wo 4 = li) (hwz : (ln.toInt = 0 ∧ bs.toInt = 0 ∧ tk.toInt = 0 ∧ lw.toInt = 0) ∨ (1 ≤ ln.toInt ∧ 2 ≤ bs.toInt ∧ 1 ≤ tk.toInt)) : Met l yX10_waits uX10_waits ({ frames := 3, cells := 0, slots := 0, locals := 69 }) (va_Pc [.ref o0, .int a1, .int a2, .int a3] (pw (dC, dI) vwCl [(o0, .inr (8, [.int x_th, .ref mwo, .ref mim, .ref mhi, .ref mlu, .ref mtp, .int x_td, .ref mfv, .int x_sz, .int x_at, .int x_fr, .int x_to, .int x_va, .int x_fk, .int x_fp, .ref mfr, .ref mwt, .int x_wt, .int x_op, .int x_jo, .ref mfg, .ref mpl, .long x_dr, .ref mtm, .ref mfa, .ref mqu, .ref mmo, .ref mwy, .ref mwn, .ref mma, .ref mwi, .ref mnu, .ref mmv])), (mwo, .inl (c_wo, 1875, .inl w_wo)), (mlu, .inl (c_lu, 20000, .inl w_lu))] [(c_wo, .int), (c_lu, .int)])) (vp_Si (fun r => ((-2 : Int) ≤ r.toInt ∧ r.toInt ≤ 20000))) 0 0 (fun _ => False) := by
  refine Met.ofW (cc := cX10_waits) (maxL := 6) (ret := (some .int)) pn_X10 rfl ?_
  intro p e s m args below meth c s₁ B hml hv
  obtain ⟨rfl, hP, hK, hN⟩ := hv
  have hx := B.exec
  have hb := B.bytes
  have hr := B.returns
  have hts := atoms_spec (ws := uX10_waits) B.pre
  have hown : s.vm.findClass RX10 = some m.cls := hown_of B.named rfl
  have hlocks := B.notSynchronized
  have hl := lv_entry ([.ref o0, .int a1, .int a2, .int a3]) (n := 6) (Nat.le_of_ble_eq_true rfl)
  rw [lg_entry_eq]
  generalize (lg_sl ([.ref o0, .int a1, .int a2, .int a3]) ++ List.replicate (6 - (lg_sl ([.ref o0, .int a1, .int a2, .int a3])).length) Slot.unset).toArray = ls at hl ⊢
  have hl : lv_has ls 6 [(0, .ref o0), (1, .int a1), (2, .int a2), (3, .int a3)] := hl
  refine lv_aload_n hx hb dX10_waits_0 rfl (lv_at hl 0 rfl) ?_
  refine lv_iload_n hx hb dX10_waits_1 rfl (lv_at hl 1 rfl) ?_
  refine lv_iload_n hx hb dX10_waits_2 rfl (lv_at hl 2 rfl) ?_
  refine vp_callSi (W.runV (As := [.int a1, .int a2]) (rest := []) ⟨hx, hb, hml, hown, hts⟩ (kX10_isBoth l dC dI o0 x_th mwo mim mhi mlu mtp x_td mfv x_sz x_at x_fr x_to x_va x_fk x_fp mfr mwt x_wt x_op x_jo mfg mpl x_dr mtm mfa mqu mmo mwy mwn mma mwi mnu mmv c_wo w_wo ln bs tk lw li a1 a2 b_ln b_bs b_tk b_lw (hw0) (hw1) (hw2) (hw3) (hw4) (hwz)) (cwV 2 hts gX10_waits__X10_isBoth_V313 rfl rfl rfl hd_yX10_isBoth ⟨lel 3 3 rfl, lel 69 69 rfl⟩) ⟨pw_fb, rcv_X10 hK hP (q0 := 0) rfl, (pw_use hP hK hN [0, 1] rfl [0] rfl)⟩ rfl rfl hl.1 rfl (lv_room (Nat.le_of_ble_eq_true rfl)) dX10_waits_3 ⟨lel 0 0 rfl, lel 0 0 rfl⟩) (fun r_99 h_r_99 => ?_)
  obtain ⟨b_r_99, nz_r_99⟩ := h_r_99
  have b_r_99 : (0 : Int) ≤ r_99.toInt ∧ r_99.toInt ≤ 1 := b_r_99
  refine lv_if_eq (tgt := 16) hx hb dX10_waits_6 (by decide) (fun c_100 => ?_) (fun c_100 => ?_)
  ·
    have n_c_100 : (r_99.toInt : Int) = 0 := c_eq rfl (by decide) c_100
    have b_r_99 : (0 : Int) ≤ r_99.toInt ∧ r_99.toInt ≤ 0 := r_eq1 b_r_99 (by decide : (0 : Int) ≤ (0 : Int32).toInt ∧ (0 : Int32).toInt ≤ 0) n_c_100 (by decide)
    refine lv_bipush (v := (-2)) hx hb dX10_waits_16 (by decide) ?_
    exact W.iret (v := (-2)) hx hb hr (fun t ht hW => ⟨(-2), rfl, (rg_w (by decide : (-2 : Int) ≤ ((-2) : Int32).toInt ∧ ((-2) : Int32).toInt ≤ -2) (by decide) (by decide)), ht⟩) t_nil dX10_waits_18
  ·
    have n_c_100 : (r_99.toInt : Int) ≠ 0 := c_ne rfl (by decide) c_100
    have b_r_99 : (1 : Int) ≤ r_99.toInt ∧ r_99.toInt ≤ 1 := r_ne1 b_r_99 (by decide : (0 : Int) ≤ (0 : Int32).toInt ∧ (0 : Int32).toInt ≤ 0) n_c_100 (by decide)
    obtain ⟨b_a1, b_a2, g_101⟩ := nz_r_99 c_100
    refine lv_iload_n hx hb dX10_waits_9 rfl (lv_at hl 3 rfl) ?_
    refine vp_callSi (W.runS (As := [.int a3]) (rest := []) ⟨hx, hb, hml, hown, hts⟩ (kX10_isStep l dC dI a3 ) (va_cwS 1 hts gX10_waits__X10_isStep_S336 rfl rfl rfl hd_yX10_isStep.2 ⟨lel 2 3 rfl, lel 45 69 rfl⟩) ⟨pn_fb, pn_use⟩ rfl rfl hl.1 rfl (lv_room (Nat.le_of_ble_eq_true rfl)) dX10_waits_10 ⟨lel 0 0 rfl, lel 0 0 rfl⟩) (fun r_102 h_r_102 => ?_)
    obtain ⟨b_r_102, nz_r_102⟩ := h_r_102
    have b_r_102 : (0 : Int) ≤ r_102.toInt ∧ r_102.toInt ≤ 1 := b_r_102
    refine lv_if_ne (tgt := 19) hx hb dX10_waits_13 (by decide) (fun c_103 => ?_) (fun c_103 => ?_)
    ·
      have n_c_103 : (r_102.toInt : Int) ≠ 0 := c_ne rfl (by decide) c_103
      have b_r_102 : (1 : Int) ≤ r_102.toInt ∧ r_102.toInt ≤ 1 := r_ne1 b_r_102 (by decide : (0 : Int) ≤ (0 : Int32).toInt ∧ (0 : Int32).toInt ≤ 0) n_c_103 (by decide)
      obtain ⟨b_a3, g_104⟩ := nz_r_102 c_103
      refine lv_iload_n hx hb dX10_waits_19 rfl (lv_at hl 2 rfl) ?_
      refine lv_istore (lv' := [(4, .int a2), (0, .ref o0), (1, .int a1), (2, .int a2), (3, .int a3)]) hx hb dX10_waits_20 hl (by decide) rfl (fun ls hl => ?_)
      refine lv_iconst (v := 1) hx hb dX10_waits_22 (by decide) ?_
      refine lv_istore (lv' := [(5, .int 1), (4, .int a2), (0, .ref o0), (1, .int a1), (2, .int a2), (3, .int a3)]) hx hb dX10_waits_23 hl (by decide) rfl (fun ls hl => ?_)
      refine loopP (σ := Int32 × Int32) (fun v => (20001 - v.1.toInt).toNat) (fun v ls => ((1 : Int) ≤ v.1.toInt ∧ v.1.toInt ≤ 20001) ∧ ((0 : Int) ≤ v.2.toInt ∧ v.2.toInt ≤ 19999) ∧ lv_has ls 6 [(5, .int v.1), (4, .int v.2), (0, .ref o0), (1, .int a1), (2, .int a2), (3, .int a3)]) (fun v ls hI ih_25_190 => ?_) ((1 : Int32), a2) ⟨(show (1 : Int) ≤ (1 : Int32).toInt ∧ (1 : Int32).toInt ≤ 20001 from (rg_w (by decide : (1 : Int) ≤ (1 : Int32).toInt ∧ (1 : Int32).toInt ≤ 1) (by decide) (by decide))), (show (0 : Int) ≤ a2.toInt ∧ a2.toInt ≤ 19999 from b_a2), lv_sub hl [0, 1, 2, 3, 4, 5] rfl⟩
      obtain ⟨y_111, y_112⟩ := v
      obtain ⟨b_y_111, b_y_112, hl⟩ := hI
      have b_y_111 : (1 : Int) ≤ y_111.toInt ∧ y_111.toInt ≤ 20001 := b_y_111
      have b_y_112 : (0 : Int) ≤ y_112.toInt ∧ y_112.toInt ≤ 19999 := b_y_112
      have hl : lv_has ls 6 [(5, .int y_111), (4, .int y_112), (0, .ref o0), (1, .int a1), (2, .int a2), (3, .int a3)] := hl
      refine lv_iload hx hb dX10_waits_25 (lv_at hl 0 rfl) ?_
      refine lv_aload_n hx hb dX10_waits_27 rfl (lv_at hl 2 rfl) ?_
      refine va_get (D := (dC, dI)) (ci := 8) (v := .ref mwo) (C := RX10) (T := TX10) (N := 33) hx hb hts iX10_waits_X10 hown hK hP 0 rfl rfl 1 (by decide) (hts (.fieldLink RX10 9 "LuckyTicketModel" "world" "[I") (List.mem_of_getElem? (i := 7) rfl)) (fun _ h9 => h9) rfl dX10_waits_28 ?_
      refine lv_iconst (v := 2) hx hb dX10_waits_31 (by decide) ?_
      refine va_iald hx hb hK hP 1 0 rfl rfl (vp_in_b (by decide : (2 : Int) ≤ (2 : Int32).toInt ∧ (2 : Int32).toInt ≤ 2) (by decide) (by decide)) dX10_waits_32 ?_
      refine lv_topi (fun z_191 e_z_191 => ?_)
      obtain rfl : tk = z_191 := (e_z_191.trans hw2).symm
      refine lv_icmp_gt (tgt := 64) hx hb dX10_waits_33 (by decide) (fun c_192 => ?_) (fun c_192 => ?_)
      ·
        have n_c_192 : (tk.toInt : Int) < y_111.toInt := c_gt rfl rfl c_192
        refine lv_iconst (v := (-1)) hx hb dX10_waits_64 (by decide) ?_
        exact W.iret (v := (-1)) hx hb hr (fun t ht hW => ⟨(-1), rfl, (rg_w (by decide : (-1 : Int) ≤ ((-1) : Int32).toInt ∧ ((-1) : Int32).toInt ≤ -1) (by decide) (by decide)), ht⟩) t_nil dX10_waits_65
      ·
        have n_c_192 : (y_111.toInt : Int) ≤ tk.toInt := c_ngt rfl rfl c_192
        have b_y_111 : (1 : Int) ≤ y_111.toInt ∧ y_111.toInt ≤ 20000 := r_le1 b_y_111 b_tk n_c_192 (by decide)
        have b_tk : (1 : Int) ≤ tk.toInt ∧ tk.toInt ≤ 20000 := r_le2 b_y_111 b_tk n_c_192 (by decide)
        refine lv_aload_n hx hb dX10_waits_36 rfl (lv_at hl 2 rfl) ?_
        refine lv_iload hx hb dX10_waits_37 (lv_at hl 1 rfl) ?_
        refine lv_iload_n hx hb dX10_waits_39 rfl (lv_at hl 5 rfl) ?_
        refine vp_callSi (W.runV (As := [.int y_112, .int a3]) (rest := []) ⟨hx, hb, hml, hown, hts⟩ (kX10_goesOn l dC dI o0 x_th mwo mim mhi mlu mtp x_td mfv x_sz x_at x_fr x_to x_va x_fk x_fp mfr mwt x_wt x_op x_jo mfg mpl x_dr mtm mfa mqu mmo mwy mwn mma mwi mnu mmv c_wo w_wo ln bs tk lw li y_112 a3 b_ln b_bs (rg_w b_tk (by decide) (by decide)) b_lw b_y_112 b_a3 (hw0) (hw1) (hw2) (hw3) (hw4) (hwz) (by omega)) (cwV 2 hts gX10_waits__X10_goesOn_V339 rfl rfl rfl hd_yX10_goesOn ⟨lel 1 3 rfl, lel 22 69 rfl⟩) ⟨pw_fb, rcv_X10 hK hP (q0 := 0) rfl, (pw_use hP hK hN [0, 1] rfl [0] rfl)⟩ rfl rfl hl.1 rfl (lv_room (Nat.le_of_ble_eq_true rfl)) dX10_waits_40 ⟨lel 0 0 rfl, lel 0 0 rfl⟩) (fun r_193 h_r_193 => ?_)
        have b_r_193 := h_r_193
        have b_r_193 : (0 : Int) ≤ r_193.toInt ∧ r_193.toInt ≤ 19999 := b_r_193
        refine lv_istore (lv' := [(4, .int r_193), (5, .int y_111), (0, .ref o0), (1, .int a1), (2, .int a2), (3, .int a3)]) hx hb dX10_waits_43 hl (by decide) rfl (fun ls hl => ?_)
        refine lv_aload_n hx hb dX10_waits_45 rfl (lv_at hl 2 rfl) ?_
        refine lv_iload_n hx hb dX10_waits_46 rfl (lv_at hl 3 rfl) ?_
        refine lv_iload hx hb dX10_waits_47 (lv_at hl 0 rfl) ?_
        refine vp_callSi (W.runV (As := [.int a1, .int r_193]) (rest := []) ⟨hx, hb, hml, hown, hts⟩ (kX10_isLucky l dC dI o0 x_th mwo mim mhi mlu mtp x_td mfv x_sz x_at x_fr x_to x_va x_fk x_fp mfr mwt x_wt x_op x_jo mfg mpl x_dr mtm mfa mqu mmo mwy mwn mma mwi mnu mmv c_wo c_lu w_wo w_lu ln bs tk lw li a1 r_193 b_ln b_bs (rg_w b_tk (by decide) (by decide)) b_lw b_r_193 (hw0) (hw1) (hw2) (hw3) (hw4) (hwz)) (cwV 2 hts gX10_waits__X10_isLucky_V316 rfl rfl rfl hd_yX10_isLucky ⟨lel 1 3 rfl, lel 22 69 rfl⟩) ⟨pw_fb, rcv_X10 hK hP (q0 := 0) rfl, (pw_use hP hK hN [0, 1, 2] rfl [0, 1] rfl)⟩ rfl rfl hl.1 rfl (lv_room (Nat.le_of_ble_eq_true rfl)) dX10_waits_49 ⟨lel 0 0 rfl, lel 0 0 rfl⟩) (fun r_194 h_r_194 => ?_)
        have b_r_194 := h_r_194
        have b_r_194 : (0 : Int) ≤ r_194.toInt ∧ r_194.toInt ≤ 1 := b_r_194
        refine lv_if_eq (tgt := 58) hx hb dX10_waits_52 (by decide) (fun c_195 => ?_) (fun c_195 => ?_)
        ·
          have n_c_195 : (r_194.toInt : Int) = 0 := c_eq rfl (by decide) c_195
          have b_r_194 : (0 : Int) ≤ r_194.toInt ∧ r_194.toInt ≤ 0 := r_eq1 b_r_194 (by decide : (0 : Int) ≤ (0 : Int32).toInt ∧ (0 : Int32).toInt ≤ 0) n_c_195 (by decide)
          obtain ⟨z_196, e_z_196⟩ : ∃ y : Int32, y = y_111 + 1 := ⟨_, rfl⟩
          refine lv_iinc (v := z_196) (lv' := [(5, .int z_196), (4, .int r_193), (0, .ref o0), (1, .int a1), (2, .int a2), (3, .int a3)]) hx hb dX10_waits_58 hl (k := 1) rfl (by rw [e_z_196]; rfl) (by decide) rfl (fun ls hl => ?_)
          obtain ⟨q_z_196, b_z_196⟩ := ti_add (lo := 2) (hi := 20001) e_z_196 rfl (by decide : (1 : Int32).toInt = 1) b_y_111 (by decide : (1 : Int) ≤ (1 : Int32).toInt ∧ (1 : Int32).toInt ≤ 1) (by decide)
          refine lv_goto (tgt := 25) hx hb dX10_waits_61 (by decide) ?_
          exact ih_25_190 (z_196, r_193) _ ⟨(show (1 : Int) ≤ z_196.toInt ∧ z_196.toInt ≤ 20001 from (rg_w b_z_196 (by decide) (by decide))), (show (0 : Int) ≤ r_193.toInt ∧ r_193.toInt ≤ 19999 from b_r_193), lv_sub hl [0, 1, 2, 3, 4, 5] rfl⟩ (show (20001 - z_196.toInt).toNat < (20001 - y_111.toInt).toNat by omega)
        ·
          have n_c_195 : (r_194.toInt : Int) ≠ 0 := c_ne rfl (by decide) c_195
          have b_r_194 : (1 : Int) ≤ r_194.toInt ∧ r_194.toInt ≤ 1 := r_ne1 b_r_194 (by decide : (0 : Int) ≤ (0 : Int32).toInt ∧ (0 : Int32).toInt ≤ 0) n_c_195 (by decide)
          refine lv_iload hx hb dX10_waits_55 (lv_at hl 1 rfl) ?_
          exact W.iret (v := y_111) hx hb hr (fun t ht hW => ⟨y_111, rfl, (rg_w b_y_111 (by decide) (by decide)), ht⟩) t_nil dX10_waits_57
    ·
      have n_c_103 : (r_102.toInt : Int) = 0 := c_eq rfl (by decide) c_103
      have b_r_102 : (0 : Int) ≤ r_102.toInt ∧ r_102.toInt ≤ 0 := r_eq1 b_r_102 (by decide : (0 : Int) ≤ (0 : Int32).toInt ∧ (0 : Int32).toInt ≤ 0) n_c_103 (by decide)
      refine lv_bipush (v := (-2)) hx hb dX10_waits_16 (by decide) ?_
      exact W.iret (v := (-2)) hx hb hr (fun t ht hW => ⟨(-2), rfl, (rg_w (by decide : (-2 : Int) ≤ ((-2) : Int32).toInt ∧ ((-2) : Int32).toInt ≤ -2) (by decide) (by decide)), ht⟩) t_nil dX10_waits_18
theorem dX10_hitsOf_0 : decode cX10_hitsOf 0 = .ok (.iconst 0, 1) := by decide +kernel
theorem dX10_hitsOf_1 : decode cX10_hitsOf 1 = .ok (.istore 5, 2) := by decide +kernel
theorem dX10_hitsOf_3 : decode cX10_hitsOf 3 = .ok (.iload_n 2, 1) := by decide +kernel
theorem dX10_hitsOf_4 : decode cX10_hitsOf 4 = .ok (.istore 6, 2) := by decide +kernel
theorem dX10_hitsOf_6 : decode cX10_hitsOf 6 = .ok (.iconst 0, 1) := by decide +kernel
theorem dX10_hitsOf_7 : decode cX10_hitsOf 7 = .ok (.istore 7, 2) := by decide +kernel
theorem dX10_hitsOf_9 : decode cX10_hitsOf 9 = .ok (.iload 7, 2) := by decide +kernel
theorem dX10_hitsOf_11 : decode cX10_hitsOf 11 = .ok (.iload 4, 2) := by decide +kernel
theorem dX10_hitsOf_13 : decode cX10_hitsOf 13 = .ok (.if_icmp .ge 38, 3) := by decide +kernel
theorem dX10_hitsOf_16 : decode cX10_hitsOf 16 = .ok (.iload 5, 2) := by decide +kernel
theorem dX10_hitsOf_18 : decode cX10_hitsOf 18 = .ok (.aload_n 0, 1) := by decide +kernel
theorem dX10_hitsOf_19 : decode cX10_hitsOf 19 = .ok (.iload_n 1, 1) := by decide +kernel
theorem dX10_hitsOf_20 : decode cX10_hitsOf 20 = .ok (.iload 6, 2) := by decide +kernel
theorem dX10_hitsOf_22 : decode cX10_hitsOf 22 = .ok (.invokevirtual 316, 3) := by decide +kernel
theorem dX10_hitsOf_25 : decode cX10_hitsOf 25 = .ok (.ifCond .eq 7, 3) := by decide +kernel
theorem dX10_hitsOf_28 : decode cX10_hitsOf 28 = .ok (.iconst 1, 1) := by decide +kernel
theorem dX10_hitsOf_29 : decode cX10_hitsOf 29 = .ok (.goto 4, 3) := by decide +kernel
theorem dX10_hitsOf_32 : decode cX10_hitsOf 32 = .ok (.iconst 0, 1) := by decide +kernel
theorem dX10_hitsOf_33 : decode cX10_hitsOf 33 = .ok (.iadd, 1) := by decide +kernel
theorem dX10_hitsOf_34 : decode cX10_hitsOf 34 = .ok (.istore 5, 2) := by decide +kernel
theorem dX10_hitsOf_36 : decode cX10_hitsOf 36 = .ok (.aload_n 0, 1) := by decide +kernel
theorem dX10_hitsOf_37 : decode cX10_hitsOf 37 = .ok (.iload 6, 2) := by decide +kernel
theorem dX10_hitsOf_39 : decode cX10_hitsOf 39 = .ok (.iload_n 3, 1) := by decide +kernel
theorem dX10_hitsOf_40 : decode cX10_hitsOf 40 = .ok (.invokevirtual 339, 3) := by decide +kernel
theorem dX10_hitsOf_43 : decode cX10_hitsOf 43 = .ok (.istore 6, 2) := by decide +kernel
theorem dX10_hitsOf_45 : decode cX10_hitsOf 45 = .ok (.iinc 7 1, 3) := by decide +kernel
theorem dX10_hitsOf_48 : decode cX10_hitsOf 48 = .ok (.goto (-39), 3) := by decide +kernel
theorem dX10_hitsOf_51 : decode cX10_hitsOf 51 = .ok (.iload 5, 2) := by decide +kernel
theorem dX10_hitsOf_53 : decode cX10_hitsOf 53 = .ok (.ireturn, 1) := by decide +kernel
theorem hd_yX10_hitsOf : yX10_hitsOf.cls = RX10 ∧ yX10_hitsOf.cls ≠ "java/lang/invoke/MethodHandle" ∧ yX10_hitsOf.cls ≠ "java/lang/invoke/VarHandle" ∧ (parseMethodDescriptor yX10_hitsOf.desc).map (fun d => d.parameters.length) = some 4 := by decide +kernel
def uX10_hitsOf : List Cond := List.cons (.code yX10_hitsOf cX10_hitsOf 8 (some .int)) (HAppend.hAppend ([.methodLink RX10 316 yX10_isLucky, .instanceMethod yX10_isLucky, .selects RX10 yX10_isLucky yX10_isLucky, .initialized RX10, .methodLink RX10 339 yX10_goesOn, .instanceMethod yX10_goesOn, .selects RX10 yX10_goesOn yX10_goesOn] : List Cond) (HAppend.hAppend uX10_isLucky uX10_goesOn))
theorem guX10_hitsOf : GU uX10_hitsOf := gu_cons (gu_app (by decide +kernel) (gu_ap guX10_isLucky guX10_goesOn))
theorem gX10_hitsOf__X10_isLucky_V316 : GoodIn uX10_hitsOf (wsV RX10 316 RX10 yX10_isLucky uX10_isLucky) := gin_V (List.mem_of_getElem? (i := 1) rfl) (List.mem_of_getElem? (i := 2) rfl) (List.mem_of_getElem? (i := 3) rfl) (List.mem_of_getElem? (i := 4) rfl) (fun _ h => (List.mem_cons_of_mem _ (List.mem_append_right _ (List.mem_append_left _ h)))) guX10_isLucky
theorem gX10_hitsOf__X10_goesOn_V339 : GoodIn uX10_hitsOf (wsV RX10 339 RX10 yX10_goesOn uX10_goesOn) := gin_V (List.mem_of_getElem? (i := 5) rfl) (List.mem_of_getElem? (i := 6) rfl) (List.mem_of_getElem? (i := 7) rfl) (List.mem_of_getElem? (i := 4) rfl) (fun _ h => (List.mem_cons_of_mem _ (List.mem_append_right _ (List.mem_append_right _ h)))) guX10_goesOn
set_option maxHeartbeats 4000000 in
set_option maxRecDepth 100000 in
theorem kX10_hitsOf (l : Launch) (dC : Nat → ClassId) (dI : Nat → Nat → Nat) (o0 : Nat) (x_th : Int32) (mwo : Nat) (mim : Nat) (mhi : Nat) (mlu : Nat) (mtp : Nat) (x_td : Int32) (mfv : Nat) (x_sz : Int32) (x_at : Int32) (x_fr : Int32) (x_to : Int32) (x_va : Int32) (x_fk : Int32) (x_fp : Int32) (mfr : Nat) (mwt : Nat) (x_wt : Int32) (x_op : Int32) (x_jo : Int32) (mfg : Nat) (mpl : Nat) (x_dr : Int64) (mtm : Nat) (mfa : Nat) (mqu : Nat) (mmo : Nat) (mwy : Nat) (mwn : Nat) (mma : Nat) (mwi : Nat) (mnu : Nat) (mmv : Nat) (c_wo : ClassId) (c_lu : ClassId) (w_wo : Nat → Int32) (w_lu : Nat → Int32) (ln : Int32) (bs : Int32) (tk : Int32) (lw : Int32) (li : Int32) (a1 : Int32) (a2 : Int32) (a3 : Int32) (a4 : Int32) (b_ln : (0 : Int) ≤ ln.toInt ∧ ln.toInt ≤ 12) (b_bs : (0 : Int) ≤ bs.toInt ∧ bs.toInt ≤ 16) (b_tk : (0 : Int) ≤ tk.toInt ∧ tk.toInt ≤ 20000) (b_lw : (0 : Int) ≤ lw.toInt ∧ lw.toInt ≤ 9) (b_a2 : (0 : Int) ≤ a2.toInt ∧ a2.toInt ≤ 19999) (b_a3 : (1 : Int) ≤ a3.toInt ∧ a3.toInt ≤ 9999) (hw0 : w_wo 0 = ln) (hw1 : w_wo 1 = bs) (hw2 : w_wo 2 = tk) (hw3 : w_wo 3 = lw) (hw4 : w_wo 4 = li) (hwz : (ln.toInt = 0 ∧ bs.toInt = 0 ∧ tk.toInt = 0 ∧ lw.toInt = 0) ∨ (1 ≤ ln.toInt ∧ 2 ≤ bs.toInt ∧ 1 ≤ tk.toInt)) (htk : 1 ≤ tk.toInt) : Met l yX10_hitsOf uX10_hitsOf ({ frames := 1, cells := 0, slots := 0, locals := 22 }) (va_Pc [.ref o0, .int a1, .int a2, .int a3, .int a4] (pw (dC, dI) vwCl [(o0, .inr (8, [.int x_th, .ref mwo, .ref mim, .ref mhi, .ref mlu, .ref mtp, .int x_td, .ref mfv, .int x_sz, .int x_at, .int x_fr, .int x_to, .int x_va, .int x_fk, .int x_fp, .ref mfr, .ref mwt, .int x_wt, .int x_op, .int x_jo, .ref mfg, .ref mpl, .long x_dr, .ref mtm, .ref mfa, .ref mqu, .ref mmo, .ref mwy, .ref mwn, .ref mma, .ref mwi, .ref mnu, .ref mmv])), (mwo, .inl (c_wo, 1875, .inl w_wo)), (mlu, .inl (c_lu, 20000, .inl w_lu))] [(c_wo, .int), (c_lu, .int)])) (vp_Si (fun r => True)) 0 0 (fun _ => False) := by
  refine Met.ofW (cc := cX10_hitsOf) (maxL := 8) (ret := (some .int)) pn_X10 rfl ?_
  intro p e s m args below meth c s₁ B hml hv
  obtain ⟨rfl, hP, hK, hN⟩ := hv
  have hx := B.exec
  have hb := B.bytes
  have hr := B.returns
  have hts := atoms_spec (ws := uX10_hitsOf) B.pre
  have hown : s.vm.findClass RX10 = some m.cls := hown_of B.named rfl
  have hlocks := B.notSynchronized
  have hl := lv_entry ([.ref o0, .int a1, .int a2, .int a3, .int a4]) (n := 8) (Nat.le_of_ble_eq_true rfl)
  rw [lg_entry_eq]
  generalize (lg_sl ([.ref o0, .int a1, .int a2, .int a3, .int a4]) ++ List.replicate (8 - (lg_sl ([.ref o0, .int a1, .int a2, .int a3, .int a4])).length) Slot.unset).toArray = ls at hl ⊢
  have hl : lv_has ls 8 [(0, .ref o0), (1, .int a1), (2, .int a2), (3, .int a3), (4, .int a4)] := hl
  refine lv_iconst (v := 0) hx hb dX10_hitsOf_0 (by decide) ?_
  refine lv_istore (lv' := [(5, .int 0), (0, .ref o0), (1, .int a1), (2, .int a2), (3, .int a3), (4, .int a4)]) hx hb dX10_hitsOf_1 hl (by decide) rfl (fun ls hl => ?_)
  refine lv_iload_n hx hb dX10_hitsOf_3 rfl (lv_at hl 3 rfl) ?_
  refine lv_istore (lv' := [(6, .int a2), (5, .int 0), (0, .ref o0), (1, .int a1), (2, .int a2), (3, .int a3), (4, .int a4)]) hx hb dX10_hitsOf_4 hl (by decide) rfl (fun ls hl => ?_)
  refine lv_iconst (v := 0) hx hb dX10_hitsOf_6 (by decide) ?_
  refine lv_istore (lv' := [(7, .int 0), (6, .int a2), (5, .int 0), (0, .ref o0), (1, .int a1), (2, .int a2), (3, .int a3), (4, .int a4)]) hx hb dX10_hitsOf_7 hl (by decide) rfl (fun ls hl => ?_)
  refine loopP (σ := Int32 × Int32 × Int32) (fun v => (2147483647 - v.1.toInt).toNat) (fun v ls => ((0 : Int) ≤ v.1.toInt ∧ v.1.toInt ≤ 2147483647) ∧ ((0 : Int) ≤ v.2.1.toInt ∧ v.2.1.toInt ≤ 19999) ∧ lv_has ls 8 [(7, .int v.1), (6, .int v.2.1), (5, .int v.2.2), (0, .ref o0), (1, .int a1), (2, .int a2), (3, .int a3), (4, .int a4)]) (fun v ls hI ih_9_237 => ?_) ((0 : Int32), a2, (0 : Int32)) ⟨(show (0 : Int) ≤ (0 : Int32).toInt ∧ (0 : Int32).toInt ≤ 2147483647 from (rg_w (by decide : (0 : Int) ≤ (0 : Int32).toInt ∧ (0 : Int32).toInt ≤ 0) (by decide) (by decide))), (show (0 : Int) ≤ a2.toInt ∧ a2.toInt ≤ 19999 from b_a2), lv_sub hl [0, 1, 2, 3, 4, 5, 6, 7] rfl⟩
  obtain ⟨y_130, y_131, y_132⟩ := v
  obtain ⟨b_y_130, b_y_131, hl⟩ := hI
  have b_y_130 : (0 : Int) ≤ y_130.toInt ∧ y_130.toInt ≤ 2147483647 := b_y_130
  have b_y_131 : (0 : Int) ≤ y_131.toInt ∧ y_131.toInt ≤ 19999 := b_y_131
  have hl : lv_has ls 8 [(7, .int y_130), (6, .int y_131), (5, .int y_132), (0, .ref o0), (1, .int a1), (2, .int a2), (3, .int a3), (4, .int a4)] := hl
  refine lv_iload hx hb dX10_hitsOf_9 (lv_at hl 0 rfl) ?_
  refine lv_iload hx hb dX10_hitsOf_11 (lv_at hl 7 rfl) ?_
  refine lv_icmp_ge (tgt := 51) hx hb dX10_hitsOf_13 (by decide) (fun c_238 => ?_) (fun c_238 => ?_)
  ·
    have n_c_238 : (a4.toInt : Int) ≤ y_130.toInt := c_ge rfl rfl c_238
    refine lv_iload hx hb dX10_hitsOf_51 (lv_at hl 2 rfl) ?_
    exact W.iret (v := y_132) hx hb hr (fun t ht hW => ⟨y_132, rfl, trivial, ht⟩) t_nil dX10_hitsOf_53
  ·
    have n_c_238 : (y_130.toInt : Int) < a4.toInt := c_nge rfl rfl c_238
    have b_y_130 : (0 : Int) ≤ y_130.toInt ∧ y_130.toInt ≤ 2147483646 := r_lt1 b_y_130 (ti_rng a4) n_c_238 (by decide)
    have b_a4 : (1 : Int) ≤ a4.toInt ∧ a4.toInt ≤ 2147483647 := r_lt2 b_y_130 (ti_rng a4) n_c_238 (by decide)
    refine lv_iload hx hb dX10_hitsOf_16 (lv_at hl 2 rfl) ?_
    refine lv_aload_n hx hb dX10_hitsOf_18 rfl (lv_at hl 3 rfl) ?_
    refine lv_iload_n hx hb dX10_hitsOf_19 rfl (lv_at hl 4 rfl) ?_
    refine lv_iload hx hb dX10_hitsOf_20 (lv_at hl 1 rfl) ?_
    refine vp_callSi (W.runV (As := [.int a1, .int y_131]) (rest := [.int y_132]) ⟨hx, hb, hml, hown, hts⟩ (kX10_isLucky l dC dI o0 x_th mwo mim mhi mlu mtp x_td mfv x_sz x_at x_fr x_to x_va x_fk x_fp mfr mwt x_wt x_op x_jo mfg mpl x_dr mtm mfa mqu mmo mwy mwn mma mwi mnu mmv c_wo c_lu w_wo w_lu ln bs tk lw li a1 y_131 b_ln b_bs b_tk b_lw b_y_131 (hw0) (hw1) (hw2) (hw3) (hw4) (hwz)) (cwV 2 hts gX10_hitsOf__X10_isLucky_V316 rfl rfl rfl hd_yX10_isLucky ⟨lel 1 1 rfl, lel 22 22 rfl⟩) ⟨pw_fb, rcv_X10 hK hP (q0 := 0) rfl, (pw_use hP hK hN [0, 1, 2] rfl [0, 1] rfl)⟩ rfl rfl hl.1 rfl (lv_room (Nat.le_of_ble_eq_true rfl)) dX10_hitsOf_22 ⟨lel 0 0 rfl, lel 0 0 rfl⟩) (fun r_239 h_r_239 => ?_)
    have b_r_239 := h_r_239
    have b_r_239 : (0 : Int) ≤ r_239.toInt ∧ r_239.toInt ≤ 1 := b_r_239
    refine cutP (σ := Int32) (pc2 := 33) (st2 := fun v => [.int v, .int y_132]) (cells2 := 0) (slots2 := 0) (fun v ls => ((0 : Int) ≤ v.toInt ∧ v.toInt ≤ 1) ∧ lv_has ls 8 [(7, .int y_130), (6, .int y_131), (5, .int y_132), (0, .ref o0), (1, .int a1), (2, .int a2), (3, .int a3), (4, .int a4)]) (fun v ls hI => ?_) (fun hj_33_241 => ?_)
    ·
      obtain ⟨y_241, rfl⟩ : ∃ z, z = v := ⟨_, rfl⟩
      obtain ⟨b_y_241, hl⟩ := hI
      have b_y_241 : (0 : Int) ≤ y_241.toInt ∧ y_241.toInt ≤ 1 := b_y_241
      have hl : lv_has ls 8 [(7, .int y_130), (6, .int y_131), (5, .int y_132), (0, .ref o0), (1, .int a1), (2, .int a2), (3, .int a3), (4, .int a4)] := hl
      refine lv_iadd hx hb dX10_hitsOf_33 ?_
      refine lv_topi (fun z_242 e_z_242 => ?_)
      refine lv_istore (lv' := [(5, .int z_242), (7, .int y_130), (6, .int y_131), (0, .ref o0), (1, .int a1), (2, .int a2), (3, .int a3), (4, .int a4)]) hx hb dX10_hitsOf_34 hl (by decide) rfl (fun ls hl => ?_)
      refine lv_aload_n hx hb dX10_hitsOf_36 rfl (lv_at hl 3 rfl) ?_
      refine lv_iload hx hb dX10_hitsOf_37 (lv_at hl 2 rfl) ?_
      refine lv_iload_n hx hb dX10_hitsOf_39 rfl (lv_at hl 6 rfl) ?_
      refine vp_callSi (W.runV (As := [.int y_131, .int a3]) (rest := []) ⟨hx, hb, hml, hown, hts⟩ (kX10_goesOn l dC dI o0 x_th mwo mim mhi mlu mtp x_td mfv x_sz x_at x_fr x_to x_va x_fk x_fp mfr mwt x_wt x_op x_jo mfg mpl x_dr mtm mfa mqu mmo mwy mwn mma mwi mnu mmv c_wo w_wo ln bs tk lw li y_131 a3 b_ln b_bs b_tk b_lw b_y_131 b_a3 (hw0) (hw1) (hw2) (hw3) (hw4) (hwz) (by omega)) (cwV 2 hts gX10_hitsOf__X10_goesOn_V339 rfl rfl rfl hd_yX10_goesOn ⟨lel 1 1 rfl, lel 22 22 rfl⟩) ⟨pw_fb, rcv_X10 hK hP (q0 := 0) rfl, (pw_use hP hK hN [0, 1] rfl [0] rfl)⟩ rfl rfl hl.1 rfl (lv_room (Nat.le_of_ble_eq_true rfl)) dX10_hitsOf_40 ⟨lel 0 0 rfl, lel 0 0 rfl⟩) (fun r_243 h_r_243 => ?_)
      have b_r_243 := h_r_243
      have b_r_243 : (0 : Int) ≤ r_243.toInt ∧ r_243.toInt ≤ 19999 := b_r_243
      refine lv_istore (lv' := [(6, .int r_243), (5, .int z_242), (7, .int y_130), (0, .ref o0), (1, .int a1), (2, .int a2), (3, .int a3), (4, .int a4)]) hx hb dX10_hitsOf_43 hl (by decide) rfl (fun ls hl => ?_)
      obtain ⟨z_244, e_z_244⟩ : ∃ y : Int32, y = y_130 + 1 := ⟨_, rfl⟩
      refine lv_iinc (v := z_244) (lv' := [(7, .int z_244), (6, .int r_243), (5, .int z_242), (0, .ref o0), (1, .int a1), (2, .int a2), (3, .int a3), (4, .int a4)]) hx hb dX10_hitsOf_45 hl (k := 2) rfl (by rw [e_z_244]; rfl) (by decide) rfl (fun ls hl => ?_)
      obtain ⟨q_z_244, b_z_244⟩ := ti_add (lo := 1) (hi := 2147483647) e_z_244 rfl (by decide : (1 : Int32).toInt = 1) b_y_130 (by decide : (1 : Int) ≤ (1 : Int32).toInt ∧ (1 : Int32).toInt ≤ 1) (by decide)
      refine lv_goto (tgt := 9) hx hb dX10_hitsOf_48 (by decide) ?_
      exact ih_9_237 (z_244, r_243, z_242) _ ⟨(show (0 : Int) ≤ z_244.toInt ∧ z_244.toInt ≤ 2147483647 from (rg_w b_z_244 (by decide) (by decide))), (show (0 : Int) ≤ r_243.toInt ∧ r_243.toInt ≤ 19999 from b_r_243), lv_sub hl [0, 1, 2, 3, 4, 5, 6, 7] rfl⟩ (show (2147483647 - z_244.toInt).toNat < (2147483647 - y_130.toInt).toNat by omega)
    ·
      refine lv_if_eq (tgt := 32) hx hb dX10_hitsOf_25 (by decide) (fun c_240 => ?_) (fun c_240 => ?_)
      ·
        have n_c_240 : (r_239.toInt : Int) = 0 := c_eq rfl (by decide) c_240
        have b_r_239 : (0 : Int) ≤ r_239.toInt ∧ r_239.toInt ≤ 0 := r_eq1 b_r_239 (by decide : (0 : Int) ≤ (0 : Int32).toInt ∧ (0 : Int32).toInt ≤ 0) n_c_240 (by decide)
        refine lv_iconst (v := 0) hx hb dX10_hitsOf_32 (by decide) ?_
        exact hj_33_241 (0 : Int32) _ ⟨(show (0 : Int) ≤ (0 : Int32).toInt ∧ (0 : Int32).toInt ≤ 1 from (rg_w (by decide : (0 : Int) ≤ (0 : Int32).toInt ∧ (0 : Int32).toInt ≤ 0) (by decide) (by decide))), lv_sub hl [0, 1, 2, 3, 4, 5, 6, 7] rfl⟩
      ·
        have n_c_240 : (r_239.toInt : Int) ≠ 0 := c_ne rfl (by decide) c_240
        have b_r_239 : (1 : Int) ≤ r_239.toInt ∧ r_239.toInt ≤ 1 := r_ne1 b_r_239 (by decide : (0 : Int) ≤ (0 : Int32).toInt ∧ (0 : Int32).toInt ≤ 0) n_c_240 (by decide)
        refine lv_iconst (v := 1) hx hb dX10_hitsOf_28 (by decide) ?_
        refine lv_goto (tgt := 33) hx hb dX10_hitsOf_29 (by decide) ?_
        exact hj_33_241 (1 : Int32) _ ⟨(show (0 : Int) ≤ (1 : Int32).toInt ∧ (1 : Int32).toInt ≤ 1 from (rg_w (by decide : (1 : Int) ≤ (1 : Int32).toInt ∧ (1 : Int32).toInt ≤ 1) (by decide) (by decide))), lv_sub hl [0, 1, 2, 3, 4, 5, 6, 7] rfl⟩
theorem dX10_hits_0 : decode cX10_hits 0 = .ok (.aload_n 0, 1) := by decide +kernel
theorem dX10_hits_1 : decode cX10_hits 1 = .ok (.iload_n 1, 1) := by decide +kernel
theorem dX10_hits_2 : decode cX10_hits 2 = .ok (.iload_n 2, 1) := by decide +kernel
theorem dX10_hits_3 : decode cX10_hits 3 = .ok (.invokevirtual 313, 3) := by decide +kernel
theorem dX10_hits_6 : decode cX10_hits 6 = .ok (.ifCond .eq 35, 3) := by decide +kernel
theorem dX10_hits_9 : decode cX10_hits 9 = .ok (.iload_n 3, 1) := by decide +kernel
theorem dX10_hits_10 : decode cX10_hits 10 = .ok (.invokestatic 336, 3) := by decide +kernel
theorem dX10_hits_13 : decode cX10_hits 13 = .ok (.ifCond .eq 28, 3) := by decide +kernel
theorem dX10_hits_16 : decode cX10_hits 16 = .ok (.iload 4, 2) := by decide +kernel
theorem dX10_hits_18 : decode cX10_hits 18 = .ok (.i2l, 1) := by decide +kernel
theorem dX10_hits_19 : decode cX10_hits 19 = .ok (.lconst 0, 1) := by decide +kernel
theorem dX10_hits_20 : decode cX10_hits 20 = .ok (.ldc2_w 261, 3) := by decide +kernel
theorem dX10_hits_23 : decode cX10_hits 23 = .ok (.invokestatic 82, 3) := by decide +kernel
theorem dX10_hits_26 : decode cX10_hits 26 = .ok (.ifCond .eq 15, 3) := by decide +kernel
theorem dX10_hits_29 : decode cX10_hits 29 = .ok (.aload_n 0, 1) := by decide +kernel
theorem dX10_hits_30 : decode cX10_hits 30 = .ok (.iload_n 1, 1) := by decide +kernel
theorem dX10_hits_31 : decode cX10_hits 31 = .ok (.iload_n 2, 1) := by decide +kernel
theorem dX10_hits_32 : decode cX10_hits 32 = .ok (.iload_n 3, 1) := by decide +kernel
theorem dX10_hits_33 : decode cX10_hits 33 = .ok (.iload 4, 2) := by decide +kernel
theorem dX10_hits_35 : decode cX10_hits 35 = .ok (.invokevirtual 342, 3) := by decide +kernel
theorem dX10_hits_38 : decode cX10_hits 38 = .ok (.goto 5, 3) := by decide +kernel
theorem dX10_hits_41 : decode cX10_hits 41 = .ok (.bipush (-2), 2) := by decide +kernel
theorem dX10_hits_43 : decode cX10_hits 43 = .ok (.ireturn, 1) := by decide +kernel
theorem hd_yX10_hits : yX10_hits.cls = RX10 ∧ yX10_hits.cls ≠ "java/lang/invoke/MethodHandle" ∧ yX10_hits.cls ≠ "java/lang/invoke/VarHandle" ∧ (parseMethodDescriptor yX10_hits.desc).map (fun d => d.parameters.length) = some 4 := by decide +kernel
def uX10_hits : List Cond := List.cons (.code yX10_hits cX10_hits 5 (some .int)) (HAppend.hAppend ([.methodLink RX10 313 yX10_isBoth, .instanceMethod yX10_isBoth, .selects RX10 yX10_isBoth yX10_isBoth, .initialized RX10, .methodLink RX10 336 yX10_isStep, .static yX10_isStep, .constantLong RX10 261 (20000), .methodLink RX10 82 yX10_in, .static yX10_in, .methodLink RX10 342 yX10_hitsOf, .instanceMethod yX10_hitsOf, .selects RX10 yX10_hitsOf yX10_hitsOf] : List Cond) (HAppend.hAppend uX10_isBoth (HAppend.hAppend uX10_isStep (HAppend.hAppend uX10_in uX10_hitsOf))))
theorem guX10_hits : GU uX10_hits := gu_cons (gu_app (by decide +kernel) (gu_ap guX10_isBoth (gu_ap guX10_isStep (gu_ap guX10_in guX10_hitsOf))))
theorem gX10_hits__X10_isBoth_V313 : GoodIn uX10_hits (wsV RX10 313 RX10 yX10_isBoth uX10_isBoth) := gin_V (List.mem_of_getElem? (i := 1) rfl) (List.mem_of_getElem? (i := 2) rfl) (List.mem_of_getElem? (i := 3) rfl) (List.mem_of_getElem? (i := 4) rfl) (fun _ h => (List.mem_cons_of_mem _ (List.mem_append_right _ (List.mem_append_left _ h)))) guX10_isBoth
theorem gX10_hits__X10_isStep_S336 : GoodIn uX10_hits (va_wsS RX10 336 yX10_isStep uX10_isStep) := gin_S (List.mem_of_getElem? (i := 5) rfl) (List.mem_of_getElem? (i := 6) rfl) (List.mem_of_getElem? (i := 4) rfl) (fun _ h => (List.mem_cons_of_mem _ (List.mem_append_right _ (List.mem_append_right _ (List.mem_append_left _ h))))) guX10_isStep
theorem gX10_hits__X10_in_S82 : GoodIn uX10_hits (va_wsS RX10 82 yX10_in uX10_in) := gin_S (List.mem_of_getElem? (i := 8) rfl) (List.mem_of_getElem? (i := 9) rfl) (List.mem_of_getElem? (i := 4) rfl) (fun _ h => (List.mem_cons_of_mem _ (List.mem_append_right _ (List.mem_append_right _ (List.mem_append_right _ (List.mem_append_left _ h)))))) guX10_in
theorem gX10_hits__X10_hitsOf_V342 : GoodIn uX10_hits (wsV RX10 342 RX10 yX10_hitsOf uX10_hitsOf) := gin_V (List.mem_of_getElem? (i := 10) rfl) (List.mem_of_getElem? (i := 11) rfl) (List.mem_of_getElem? (i := 12) rfl) (List.mem_of_getElem? (i := 4) rfl) (fun _ h => (List.mem_cons_of_mem _ (List.mem_append_right _ (List.mem_append_right _ (List.mem_append_right _ (List.mem_append_right _ h)))))) guX10_hitsOf
set_option maxHeartbeats 4000000 in
set_option maxRecDepth 100000 in
theorem kX10_hits (l : Launch) (dC : Nat → ClassId) (dI : Nat → Nat → Nat) (o0 : Nat) (x_th : Int32) (mwo : Nat) (mim : Nat) (mhi : Nat) (mlu : Nat) (mtp : Nat) (x_td : Int32) (mfv : Nat) (x_sz : Int32) (x_at : Int32) (x_fr : Int32) (x_to : Int32) (x_va : Int32) (x_fk : Int32) (x_fp : Int32) (mfr : Nat) (mwt : Nat) (x_wt : Int32) (x_op : Int32) (x_jo : Int32) (mfg : Nat) (mpl : Nat) (x_dr : Int64) (mtm : Nat) (mfa : Nat) (mqu : Nat) (mmo : Nat) (mwy : Nat) (mwn : Nat) (mma : Nat) (mwi : Nat) (mnu : Nat) (mmv : Nat) (c_wo : ClassId) (c_lu : ClassId) (w_wo : Nat → Int32) (w_lu : Nat → Int32) (ln : Int32) (bs : Int32) (tk : Int32) (lw : Int32) (li : Int32) (a1 : Int32) (a2 : Int32) (a3 : Int32) (a4 : Int32) (b_ln : (0 : Int) ≤ ln.toInt ∧ ln.toInt ≤ 12) (b_bs : (0 : Int) ≤ bs.toInt ∧ bs.toInt ≤ 16) (b_tk : (0 : Int) ≤ tk.toInt ∧ tk.toInt ≤ 20000) (b_lw : (0 : Int) ≤ lw.toInt ∧ lw.toInt ≤ 9) (hw0 : w_wo 0 = ln) (hw1 : w_wo 1 = bs) (hw2 : w_wo 2 = tk) (hw3 : w_wo 3 = lw) (hw4 : w_wo 4 = li) (hwz : (ln.toInt = 0 ∧ bs.toInt = 0 ∧ tk.toInt = 0 ∧ lw.toInt = 0) ∨ (1 ≤ ln.toInt ∧ 2 ≤ bs.toInt ∧ 1 ≤ tk.toInt)) : Met l yX10_hits uX10_hits ({ frames := 3, cells := 0, slots := 0, locals := 69 }) (va_Pc [.ref o0, .int a1, .int a2, .int a3, .int a4] (pw (dC, dI) vwCl [(o0, .inr (8, [.int x_th, .ref mwo, .ref mim, .ref mhi, .ref mlu, .ref mtp, .int x_td, .ref mfv, .int x_sz, .int x_at, .int x_fr, .int x_to, .int x_va, .int x_fk, .int x_fp, .ref mfr, .ref mwt, .int x_wt, .int x_op, .int x_jo, .ref mfg, .ref mpl, .long x_dr, .ref mtm, .ref mfa, .ref mqu, .ref mmo, .ref mwy, .ref mwn, .ref mma, .ref mwi, .ref mnu, .ref mmv])), (mwo, .inl (c_wo, 1875, .inl w_wo)), (mlu, .inl (c_lu, 20000, .inl w_lu))] [(c_wo, .int), (c_lu, .int)])) (vp_Si (fun r => True)) 0 0 (fun _ => False) := by
  refine Met.ofW (cc := cX10_hits) (maxL := 5) (ret := (some .int)) pn_X10 rfl ?_
  intro p e s m args below meth c s₁ B hml hv
  obtain ⟨rfl, hP, hK, hN⟩ := hv
  have hx := B.exec
  have hb := B.bytes
  have hr := B.returns
  have hts := atoms_spec (ws := uX10_hits) B.pre
  have hown : s.vm.findClass RX10 = some m.cls := hown_of B.named rfl
  have hlocks := B.notSynchronized
  have hl := lv_entry ([.ref o0, .int a1, .int a2, .int a3, .int a4]) (n := 5) (Nat.le_of_ble_eq_true rfl)
  rw [lg_entry_eq]
  generalize (lg_sl ([.ref o0, .int a1, .int a2, .int a3, .int a4]) ++ List.replicate (5 - (lg_sl ([.ref o0, .int a1, .int a2, .int a3, .int a4])).length) Slot.unset).toArray = ls at hl ⊢
  have hl : lv_has ls 5 [(0, .ref o0), (1, .int a1), (2, .int a2), (3, .int a3), (4, .int a4)] := hl
  refine lv_aload_n hx hb dX10_hits_0 rfl (lv_at hl 0 rfl) ?_
  refine lv_iload_n hx hb dX10_hits_1 rfl (lv_at hl 1 rfl) ?_
  refine lv_iload_n hx hb dX10_hits_2 rfl (lv_at hl 2 rfl) ?_
  refine vp_callSi (W.runV (As := [.int a1, .int a2]) (rest := []) ⟨hx, hb, hml, hown, hts⟩ (kX10_isBoth l dC dI o0 x_th mwo mim mhi mlu mtp x_td mfv x_sz x_at x_fr x_to x_va x_fk x_fp mfr mwt x_wt x_op x_jo mfg mpl x_dr mtm mfa mqu mmo mwy mwn mma mwi mnu mmv c_wo w_wo ln bs tk lw li a1 a2 b_ln b_bs b_tk b_lw (hw0) (hw1) (hw2) (hw3) (hw4) (hwz)) (cwV 2 hts gX10_hits__X10_isBoth_V313 rfl rfl rfl hd_yX10_isBoth ⟨lel 3 3 rfl, lel 69 69 rfl⟩) ⟨pw_fb, rcv_X10 hK hP (q0 := 0) rfl, (pw_use hP hK hN [0, 1] rfl [0] rfl)⟩ rfl rfl hl.1 rfl (lv_room (Nat.le_of_ble_eq_true rfl)) dX10_hits_3 ⟨lel 0 0 rfl, lel 0 0 rfl⟩) (fun r_12 h_r_12 => ?_)
  obtain ⟨b_r_12, nz_r_12⟩ := h_r_12
  have b_r_12 : (0 : Int) ≤ r_12.toInt ∧ r_12.toInt ≤ 1 := b_r_12
  refine lv_if_eq (tgt := 41) hx hb dX10_hits_6 (by decide) (fun c_13 => ?_) (fun c_13 => ?_)
  ·
    have n_c_13 : (r_12.toInt : Int) = 0 := c_eq rfl (by decide) c_13
    have b_r_12 : (0 : Int) ≤ r_12.toInt ∧ r_12.toInt ≤ 0 := r_eq1 b_r_12 (by decide : (0 : Int) ≤ (0 : Int32).toInt ∧ (0 : Int32).toInt ≤ 0) n_c_13 (by decide)
    refine lv_bipush (v := (-2)) hx hb dX10_hits_41 (by decide) ?_
    exact W.iret (v := (-2)) hx hb hr (fun t ht hW => ⟨(-2), rfl, trivial, ht⟩) t_nil dX10_hits_43
  ·
    have n_c_13 : (r_12.toInt : Int) ≠ 0 := c_ne rfl (by decide) c_13
    have b_r_12 : (1 : Int) ≤ r_12.toInt ∧ r_12.toInt ≤ 1 := r_ne1 b_r_12 (by decide : (0 : Int) ≤ (0 : Int32).toInt ∧ (0 : Int32).toInt ≤ 0) n_c_13 (by decide)
    obtain ⟨b_a1, b_a2, g_14⟩ := nz_r_12 c_13
    refine lv_iload_n hx hb dX10_hits_9 rfl (lv_at hl 3 rfl) ?_
    refine vp_callSi (W.runS (As := [.int a3]) (rest := []) ⟨hx, hb, hml, hown, hts⟩ (kX10_isStep l dC dI a3 ) (va_cwS 1 hts gX10_hits__X10_isStep_S336 rfl rfl rfl hd_yX10_isStep.2 ⟨lel 2 3 rfl, lel 45 69 rfl⟩) ⟨pn_fb, pn_use⟩ rfl rfl hl.1 rfl (lv_room (Nat.le_of_ble_eq_true rfl)) dX10_hits_10 ⟨lel 0 0 rfl, lel 0 0 rfl⟩) (fun r_15 h_r_15 => ?_)
    obtain ⟨b_r_15, nz_r_15⟩ := h_r_15
    have b_r_15 : (0 : Int) ≤ r_15.toInt ∧ r_15.toInt ≤ 1 := b_r_15
    refine lv_if_eq (tgt := 41) hx hb dX10_hits_13 (by decide) (fun c_16 => ?_) (fun c_16 => ?_)
    ·
      have n_c_16 : (r_15.toInt : Int) = 0 := c_eq rfl (by decide) c_16
      have b_r_15 : (0 : Int) ≤ r_15.toInt ∧ r_15.toInt ≤ 0 := r_eq1 b_r_15 (by decide : (0 : Int) ≤ (0 : Int32).toInt ∧ (0 : Int32).toInt ≤ 0) n_c_16 (by decide)
      refine lv_bipush (v := (-2)) hx hb dX10_hits_41 (by decide) ?_
      exact W.iret (v := (-2)) hx hb hr (fun t ht hW => ⟨(-2), rfl, trivial, ht⟩) t_nil dX10_hits_43
    ·
      have n_c_16 : (r_15.toInt : Int) ≠ 0 := c_ne rfl (by decide) c_16
      have b_r_15 : (1 : Int) ≤ r_15.toInt ∧ r_15.toInt ≤ 1 := r_ne1 b_r_15 (by decide : (0 : Int) ≤ (0 : Int32).toInt ∧ (0 : Int32).toInt ≤ 0) n_c_16 (by decide)
      obtain ⟨b_a3, g_17⟩ := nz_r_15 c_16
      refine lv_iload hx hb dX10_hits_16 (lv_at hl 4 rfl) ?_
      obtain ⟨z_18, e_z_18⟩ : ∃ y : Int64, y = a4.toInt64 := ⟨_, rfl⟩
      refine lv_i2l (v := z_18) hx hb dX10_hits_18 e_z_18.symm ?_
      obtain ⟨q_z_18, b_z_18⟩ := ti_i2l e_z_18 (ti_rng a4)
      refine lv_lconst (v := 0) hx hb dX10_hits_19 (by decide) ?_
      refine lv_ldc2 (v := 20000) hx hb hown (hts (.constantLong RX10 261 (20000)) (List.mem_of_getElem? (i := 7) rfl)) dX10_hits_20 ?_
      refine vp_callSi (W.runS (As := [.long z_18, .long 0, .long 20000]) (rest := []) ⟨hx, hb, hml, hown, hts⟩ (kX10_in l dC dI z_18 0 20000 ) (va_cwS 3 hts gX10_hits__X10_in_S82 rfl rfl rfl hd_yX10_in.2 ⟨lel 1 3 rfl, lel 25 69 rfl⟩) ⟨pn_fb, pn_use⟩ rfl rfl hl.1 rfl (lv_room (Nat.le_of_ble_eq_true rfl)) dX10_hits_23 ⟨lel 0 0 rfl, lel 0 0 rfl⟩) (fun r_19 h_r_19 => ?_)
      obtain ⟨b_r_19, nz_r_19⟩ := h_r_19
      have b_r_19 : (0 : Int) ≤ r_19.toInt ∧ r_19.toInt ≤ 1 := b_r_19
      refine lv_if_eq (tgt := 41) hx hb dX10_hits_26 (by decide) (fun c_20 => ?_) (fun c_20 => ?_)
      ·
        have n_c_20 : (r_19.toInt : Int) = 0 := c_eq rfl (by decide) c_20
        have b_r_19 : (0 : Int) ≤ r_19.toInt ∧ r_19.toInt ≤ 0 := r_eq1 b_r_19 (by decide : (0 : Int) ≤ (0 : Int32).toInt ∧ (0 : Int32).toInt ≤ 0) n_c_20 (by decide)
        refine lv_bipush (v := (-2)) hx hb dX10_hits_41 (by decide) ?_
        exact W.iret (v := (-2)) hx hb hr (fun t ht hW => ⟨(-2), rfl, trivial, ht⟩) t_nil dX10_hits_43
      ·
        have n_c_20 : (r_19.toInt : Int) ≠ 0 := c_ne rfl (by decide) c_20
        have b_r_19 : (1 : Int) ≤ r_19.toInt ∧ r_19.toInt ≤ 1 := r_ne1 b_r_19 (by decide : (0 : Int) ≤ (0 : Int32).toInt ∧ (0 : Int32).toInt ≤ 0) n_c_20 (by decide)
        have g_21 := nz_r_19 c_20
        have lt0_g_21 := (by decide : (0 : Int64).toInt = 0)
        have lt1_g_21 := (by decide : (20000 : Int64).toInt = 20000)
        have b_z_18 : (0 : Int) ≤ z_18.toInt ∧ z_18.toInt ≤ 20000 := by
          have q0 := b_z_18
          have q1 := (by decide : (0 : Int) ≤ (0 : Int64).toInt ∧ (0 : Int64).toInt ≤ 0)
          have q2 := (by decide : (20000 : Int) ≤ (20000 : Int64).toInt ∧ (20000 : Int64).toInt ≤ 20000)
          omega
        have b_a4 : (0 : Int) ≤ a4.toInt ∧ a4.toInt ≤ 20000 := by
          have q0 := b_z_18; have q1 := q_z_18; have q2 := (ti_rng a4); omega
        refine lv_aload_n hx hb dX10_hits_29 rfl (lv_at hl 0 rfl) ?_
        refine lv_iload_n hx hb dX10_hits_30 rfl (lv_at hl 1 rfl) ?_
        refine lv_iload_n hx hb dX10_hits_31 rfl (lv_at hl 2 rfl) ?_
        refine lv_iload_n hx hb dX10_hits_32 rfl (lv_at hl 3 rfl) ?_
        refine lv_iload hx hb dX10_hits_33 (lv_at hl 4 rfl) ?_
        refine vp_callSi (W.runV (As := [.int a1, .int a2, .int a3, .int a4]) (rest := []) ⟨hx, hb, hml, hown, hts⟩ (kX10_hitsOf l dC dI o0 x_th mwo mim mhi mlu mtp x_td mfv x_sz x_at x_fr x_to x_va x_fk x_fp mfr mwt x_wt x_op x_jo mfg mpl x_dr mtm mfa mqu mmo mwy mwn mma mwi mnu mmv c_wo c_lu w_wo w_lu ln bs tk lw li a1 a2 a3 a4 b_ln b_bs b_tk b_lw b_a2 b_a3 (hw0) (hw1) (hw2) (hw3) (hw4) (hwz) (by omega)) (cwV 4 hts gX10_hits__X10_hitsOf_V342 rfl rfl rfl hd_yX10_hitsOf ⟨lel 2 3 rfl, lel 49 69 rfl⟩) ⟨pw_fb, rcv_X10 hK hP (q0 := 0) rfl, (pw_use hP hK hN [0, 1, 2] rfl [0, 1] rfl)⟩ rfl rfl hl.1 rfl (lv_room (Nat.le_of_ble_eq_true rfl)) dX10_hits_35 ⟨lel 0 0 rfl, lel 0 0 rfl⟩) (fun r_22 h_r_22 => ?_)
        refine lv_goto (tgt := 43) hx hb dX10_hits_38 (by decide) ?_
        exact W.iret (v := r_22) hx hb hr (fun t ht hW => ⟨r_22, rfl, trivial, ht⟩) t_nil dX10_hits_43
theorem dX10_steps_0 : decode cX10_steps 0 = .ok (.aload_n 0, 1) := by decide +kernel
theorem dX10_steps_1 : decode cX10_steps 1 = .ok (.iload_n 1, 1) := by decide +kernel
theorem dX10_steps_2 : decode cX10_steps 2 = .ok (.iload_n 2, 1) := by decide +kernel
theorem dX10_steps_3 : decode cX10_steps 3 = .ok (.invokevirtual 313, 3) := by decide +kernel
theorem dX10_steps_6 : decode cX10_steps 6 = .ok (.ifCond .eq 26, 3) := by decide +kernel
theorem dX10_steps_9 : decode cX10_steps 9 = .ok (.iload_n 3, 1) := by decide +kernel
theorem dX10_steps_10 : decode cX10_steps 10 = .ok (.i2l, 1) := by decide +kernel
theorem dX10_steps_11 : decode cX10_steps 11 = .ok (.lconst 1, 1) := by decide +kernel
theorem dX10_steps_12 : decode cX10_steps 12 = .ok (.ldc2_w 346, 3) := by decide +kernel
theorem dX10_steps_15 : decode cX10_steps 15 = .ok (.invokestatic 82, 3) := by decide +kernel
theorem dX10_steps_18 : decode cX10_steps 18 = .ok (.ifCond .eq 14, 3) := by decide +kernel
theorem dX10_steps_21 : decode cX10_steps 21 = .ok (.iload 4, 2) := by decide +kernel
theorem dX10_steps_23 : decode cX10_steps 23 = .ok (.i2l, 1) := by decide +kernel
theorem dX10_steps_24 : decode cX10_steps 24 = .ok (.lconst 0, 1) := by decide +kernel
theorem dX10_steps_25 : decode cX10_steps 25 = .ok (.lconst 1, 1) := by decide +kernel
theorem dX10_steps_26 : decode cX10_steps 26 = .ok (.invokestatic 82, 3) := by decide +kernel
theorem dX10_steps_29 : decode cX10_steps 29 = .ok (.ifCond .ne 6, 3) := by decide +kernel
theorem dX10_steps_32 : decode cX10_steps 32 = .ok (.bipush (-2), 2) := by decide +kernel
theorem dX10_steps_34 : decode cX10_steps 34 = .ok (.ireturn, 1) := by decide +kernel
theorem dX10_steps_35 : decode cX10_steps 35 = .ok (.iconst (-1), 1) := by decide +kernel
theorem dX10_steps_36 : decode cX10_steps 36 = .ok (.istore 5, 2) := by decide +kernel
theorem dX10_steps_38 : decode cX10_steps 38 = .ok (.iconst (-1), 1) := by decide +kernel
theorem dX10_steps_39 : decode cX10_steps 39 = .ok (.istore 6, 2) := by decide +kernel
theorem dX10_steps_41 : decode cX10_steps 41 = .ok (.iconst 1, 1) := by decide +kernel
theorem dX10_steps_42 : decode cX10_steps 42 = .ok (.istore 7, 2) := by decide +kernel
theorem dX10_steps_44 : decode cX10_steps 44 = .ok (.iload 7, 2) := by decide +kernel
theorem dX10_steps_46 : decode cX10_steps 46 = .ok (.sipush 999, 3) := by decide +kernel
theorem dX10_steps_49 : decode cX10_steps 49 = .ok (.if_icmp .gt 56, 3) := by decide +kernel
theorem dX10_steps_52 : decode cX10_steps 52 = .ok (.aload_n 0, 1) := by decide +kernel
theorem dX10_steps_53 : decode cX10_steps 53 = .ok (.iload_n 1, 1) := by decide +kernel
theorem dX10_steps_54 : decode cX10_steps 54 = .ok (.iload_n 2, 1) := by decide +kernel
theorem dX10_steps_55 : decode cX10_steps 55 = .ok (.iload 7, 2) := by decide +kernel
theorem dX10_steps_57 : decode cX10_steps 57 = .ok (.iload_n 3, 1) := by decide +kernel
theorem dX10_steps_58 : decode cX10_steps 58 = .ok (.invokevirtual 342, 3) := by decide +kernel
theorem dX10_steps_61 : decode cX10_steps 61 = .ok (.istore 8, 2) := by decide +kernel
theorem dX10_steps_63 : decode cX10_steps 63 = .ok (.iload 4, 2) := by decide +kernel
theorem dX10_steps_65 : decode cX10_steps 65 = .ok (.ifCond .ne 11, 3) := by decide +kernel
theorem dX10_steps_68 : decode cX10_steps 68 = .ok (.iload 8, 2) := by decide +kernel
theorem dX10_steps_70 : decode cX10_steps 70 = .ok (.ifCond .ne 6, 3) := by decide +kernel
theorem dX10_steps_73 : decode cX10_steps 73 = .ok (.iload 7, 2) := by decide +kernel
theorem dX10_steps_75 : decode cX10_steps 75 = .ok (.ireturn, 1) := by decide +kernel
theorem dX10_steps_76 : decode cX10_steps 76 = .ok (.iload 4, 2) := by decide +kernel
theorem dX10_steps_78 : decode cX10_steps 78 = .ok (.ifCond .eq 21, 3) := by decide +kernel
theorem dX10_steps_81 : decode cX10_steps 81 = .ok (.iload 8, 2) := by decide +kernel
theorem dX10_steps_83 : decode cX10_steps 83 = .ok (.iload 6, 2) := by decide +kernel
theorem dX10_steps_85 : decode cX10_steps 85 = .ok (.if_icmp .gt 6, 3) := by decide +kernel
theorem dX10_steps_88 : decode cX10_steps 88 = .ok (.goto 11, 3) := by decide +kernel
theorem dX10_steps_91 : decode cX10_steps 91 = .ok (.iload 8, 2) := by decide +kernel
theorem dX10_steps_93 : decode cX10_steps 93 = .ok (.istore 6, 2) := by decide +kernel
theorem dX10_steps_95 : decode cX10_steps 95 = .ok (.iload 7, 2) := by decide +kernel
theorem dX10_steps_97 : decode cX10_steps 97 = .ok (.istore 5, 2) := by decide +kernel
theorem dX10_steps_99 : decode cX10_steps 99 = .ok (.iinc 7 1, 3) := by decide +kernel
theorem dX10_steps_102 : decode cX10_steps 102 = .ok (.goto (-58), 3) := by decide +kernel
theorem dX10_steps_105 : decode cX10_steps 105 = .ok (.iload 5, 2) := by decide +kernel
theorem dX10_steps_107 : decode cX10_steps 107 = .ok (.ireturn, 1) := by decide +kernel
theorem hd_yX10_steps : yX10_steps.cls = RX10 ∧ yX10_steps.cls ≠ "java/lang/invoke/MethodHandle" ∧ yX10_steps.cls ≠ "java/lang/invoke/VarHandle" ∧ (parseMethodDescriptor yX10_steps.desc).map (fun d => d.parameters.length) = some 4 := by decide +kernel
def uX10_steps : List Cond := List.cons (.code yX10_steps cX10_steps 9 (some .int)) (HAppend.hAppend ([.methodLink RX10 313 yX10_isBoth, .instanceMethod yX10_isBoth, .selects RX10 yX10_isBoth yX10_isBoth, .initialized RX10, .constantLong RX10 346 (60), .methodLink RX10 82 yX10_in, .static yX10_in, .methodLink RX10 342 yX10_hitsOf, .instanceMethod yX10_hitsOf, .selects RX10 yX10_hitsOf yX10_hitsOf] : List Cond) (HAppend.hAppend uX10_isBoth (HAppend.hAppend uX10_in uX10_hitsOf)))
theorem guX10_steps : GU uX10_steps := gu_cons (gu_app (by decide +kernel) (gu_ap guX10_isBoth (gu_ap guX10_in guX10_hitsOf)))
theorem gX10_steps__X10_isBoth_V313 : GoodIn uX10_steps (wsV RX10 313 RX10 yX10_isBoth uX10_isBoth) := gin_V (List.mem_of_getElem? (i := 1) rfl) (List.mem_of_getElem? (i := 2) rfl) (List.mem_of_getElem? (i := 3) rfl) (List.mem_of_getElem? (i := 4) rfl) (fun _ h => (List.mem_cons_of_mem _ (List.mem_append_right _ (List.mem_append_left _ h)))) guX10_isBoth
theorem gX10_steps__X10_in_S82 : GoodIn uX10_steps (va_wsS RX10 82 yX10_in uX10_in) := gin_S (List.mem_of_getElem? (i := 6) rfl) (List.mem_of_getElem? (i := 7) rfl) (List.mem_of_getElem? (i := 4) rfl) (fun _ h => (List.mem_cons_of_mem _ (List.mem_append_right _ (List.mem_append_right _ (List.mem_append_left _ h))))) guX10_in
theorem gX10_steps__X10_hitsOf_V342 : GoodIn uX10_steps (wsV RX10 342 RX10 yX10_hitsOf uX10_hitsOf) := gin_V (List.mem_of_getElem? (i := 8) rfl) (List.mem_of_getElem? (i := 9) rfl) (List.mem_of_getElem? (i := 10) rfl) (List.mem_of_getElem? (i := 4) rfl) (fun _ h => (List.mem_cons_of_mem _ (List.mem_append_right _ (List.mem_append_right _ (List.mem_append_right _ h))))) guX10_hitsOf
set_option maxHeartbeats 4000000 in
set_option maxRecDepth 100000 in
theorem kX10_steps (l : Launch) (dC : Nat → ClassId) (dI : Nat → Nat → Nat) (o0 : Nat) (x_th : Int32) (mwo : Nat) (mim : Nat) (mhi : Nat) (mlu : Nat) (mtp : Nat) (x_td : Int32) (mfv : Nat) (x_sz : Int32) (x_at : Int32) (x_fr : Int32) (x_to : Int32) (x_va : Int32) (x_fk : Int32) (x_fp : Int32) (mfr : Nat) (mwt : Nat) (x_wt : Int32) (x_op : Int32) (x_jo : Int32) (mfg : Nat) (mpl : Nat) (x_dr : Int64) (mtm : Nat) (mfa : Nat) (mqu : Nat) (mmo : Nat) (mwy : Nat) (mwn : Nat) (mma : Nat) (mwi : Nat) (mnu : Nat) (mmv : Nat) (c_wo : ClassId) (c_lu : ClassId) (w_wo : Nat → Int32) (w_lu : Nat → Int32) (ln : Int32) (bs : Int32) (tk : Int32) (lw : Int32) (li : Int32) (a1 : Int32) (a2 : Int32) (a3 : Int32) (a4 : Int32) (b_ln : (0 : Int) ≤ ln.toInt ∧ ln.toInt ≤ 12) (b_bs : (0 : Int) ≤ bs.toInt ∧ bs.toInt ≤ 16) (b_tk : (0 : Int) ≤ tk.toInt ∧ tk.toInt ≤ 20000) (b_lw : (0 : Int) ≤ lw.toInt ∧ lw.toInt ≤ 9) (hw0 : w_wo 0 = ln) (hw1 : w_wo 1 = bs) (hw2 : w_wo 2 = tk) (hw3 : w_wo 3 = lw) (hw4 : w_wo 4 = li) (hwz : (ln.toInt = 0 ∧ bs.toInt = 0 ∧ tk.toInt = 0 ∧ lw.toInt = 0) ∨ (1 ≤ ln.toInt ∧ 2 ≤ bs.toInt ∧ 1 ≤ tk.toInt)) : Met l yX10_steps uX10_steps ({ frames := 3, cells := 0, slots := 0, locals := 69 }) (va_Pc [.ref o0, .int a1, .int a2, .int a3, .int a4] (pw (dC, dI) vwCl [(o0, .inr (8, [.int x_th, .ref mwo, .ref mim, .ref mhi, .ref mlu, .ref mtp, .int x_td, .ref mfv, .int x_sz, .int x_at, .int x_fr, .int x_to, .int x_va, .int x_fk, .int x_fp, .ref mfr, .ref mwt, .int x_wt, .int x_op, .int x_jo, .ref mfg, .ref mpl, .long x_dr, .ref mtm, .ref mfa, .ref mqu, .ref mmo, .ref mwy, .ref mwn, .ref mma, .ref mwi, .ref mnu, .ref mmv])), (mwo, .inl (c_wo, 1875, .inl w_wo)), (mlu, .inl (c_lu, 20000, .inl w_lu))] [(c_wo, .int), (c_lu, .int)])) (vp_Si (fun r => ((-2 : Int) ≤ r.toInt ∧ r.toInt ≤ 1200))) 0 0 (fun _ => False) := by
  refine Met.ofW (cc := cX10_steps) (maxL := 9) (ret := (some .int)) pn_X10 rfl ?_
  intro p e s m args below meth c s₁ B hml hv
  obtain ⟨rfl, hP, hK, hN⟩ := hv
  have hx := B.exec
  have hb := B.bytes
  have hr := B.returns
  have hts := atoms_spec (ws := uX10_steps) B.pre
  have hown : s.vm.findClass RX10 = some m.cls := hown_of B.named rfl
  have hlocks := B.notSynchronized
  have hl := lv_entry ([.ref o0, .int a1, .int a2, .int a3, .int a4]) (n := 9) (Nat.le_of_ble_eq_true rfl)
  rw [lg_entry_eq]
  generalize (lg_sl ([.ref o0, .int a1, .int a2, .int a3, .int a4]) ++ List.replicate (9 - (lg_sl ([.ref o0, .int a1, .int a2, .int a3, .int a4])).length) Slot.unset).toArray = ls at hl ⊢
  have hl : lv_has ls 9 [(0, .ref o0), (1, .int a1), (2, .int a2), (3, .int a3), (4, .int a4)] := hl
  refine lv_aload_n hx hb dX10_steps_0 rfl (lv_at hl 0 rfl) ?_
  refine lv_iload_n hx hb dX10_steps_1 rfl (lv_at hl 1 rfl) ?_
  refine lv_iload_n hx hb dX10_steps_2 rfl (lv_at hl 2 rfl) ?_
  refine vp_callSi (W.runV (As := [.int a1, .int a2]) (rest := []) ⟨hx, hb, hml, hown, hts⟩ (kX10_isBoth l dC dI o0 x_th mwo mim mhi mlu mtp x_td mfv x_sz x_at x_fr x_to x_va x_fk x_fp mfr mwt x_wt x_op x_jo mfg mpl x_dr mtm mfa mqu mmo mwy mwn mma mwi mnu mmv c_wo w_wo ln bs tk lw li a1 a2 b_ln b_bs b_tk b_lw (hw0) (hw1) (hw2) (hw3) (hw4) (hwz)) (cwV 2 hts gX10_steps__X10_isBoth_V313 rfl rfl rfl hd_yX10_isBoth ⟨lel 3 3 rfl, lel 69 69 rfl⟩) ⟨pw_fb, rcv_X10 hK hP (q0 := 0) rfl, (pw_use hP hK hN [0, 1] rfl [0] rfl)⟩ rfl rfl hl.1 rfl (lv_room (Nat.le_of_ble_eq_true rfl)) dX10_steps_3 ⟨lel 0 0 rfl, lel 0 0 rfl⟩) (fun r_147 h_r_147 => ?_)
  obtain ⟨b_r_147, nz_r_147⟩ := h_r_147
  have b_r_147 : (0 : Int) ≤ r_147.toInt ∧ r_147.toInt ≤ 1 := b_r_147
  refine lv_if_eq (tgt := 32) hx hb dX10_steps_6 (by decide) (fun c_148 => ?_) (fun c_148 => ?_)
  ·
    have n_c_148 : (r_147.toInt : Int) = 0 := c_eq rfl (by decide) c_148
    have b_r_147 : (0 : Int) ≤ r_147.toInt ∧ r_147.toInt ≤ 0 := r_eq1 b_r_147 (by decide : (0 : Int) ≤ (0 : Int32).toInt ∧ (0 : Int32).toInt ≤ 0) n_c_148 (by decide)
    refine lv_bipush (v := (-2)) hx hb dX10_steps_32 (by decide) ?_
    exact W.iret (v := (-2)) hx hb hr (fun t ht hW => ⟨(-2), rfl, (rg_w (by decide : (-2 : Int) ≤ ((-2) : Int32).toInt ∧ ((-2) : Int32).toInt ≤ -2) (by decide) (by decide)), ht⟩) t_nil dX10_steps_34
  ·
    have n_c_148 : (r_147.toInt : Int) ≠ 0 := c_ne rfl (by decide) c_148
    have b_r_147 : (1 : Int) ≤ r_147.toInt ∧ r_147.toInt ≤ 1 := r_ne1 b_r_147 (by decide : (0 : Int) ≤ (0 : Int32).toInt ∧ (0 : Int32).toInt ≤ 0) n_c_148 (by decide)
    obtain ⟨b_a1, b_a2, g_149⟩ := nz_r_147 c_148
    refine lv_iload_n hx hb dX10_steps_9 rfl (lv_at hl 3 rfl) ?_
    obtain ⟨z_150, e_z_150⟩ : ∃ y : Int64, y = a3.toInt64 := ⟨_, rfl⟩
    refine lv_i2l (v := z_150) hx hb dX10_steps_10 e_z_150.symm ?_
    obtain ⟨q_z_150, b_z_150⟩ := ti_i2l e_z_150 (ti_rng a3)
    refine lv_lconst (v := 1) hx hb dX10_steps_11 (by decide) ?_
    refine lv_ldc2 (v := 60) hx hb hown (hts (.constantLong RX10 346 (60)) (List.mem_of_getElem? (i := 5) rfl)) dX10_steps_12 ?_
    refine vp_callSi (W.runS (As := [.long z_150, .long 1, .long 60]) (rest := []) ⟨hx, hb, hml, hown, hts⟩ (kX10_in l dC dI z_150 1 60 ) (va_cwS 3 hts gX10_steps__X10_in_S82 rfl rfl rfl hd_yX10_in.2 ⟨lel 1 3 rfl, lel 25 69 rfl⟩) ⟨pn_fb, pn_use⟩ rfl rfl hl.1 rfl (lv_room (Nat.le_of_ble_eq_true rfl)) dX10_steps_15 ⟨lel 0 0 rfl, lel 0 0 rfl⟩) (fun r_151 h_r_151 => ?_)
    obtain ⟨b_r_151, nz_r_151⟩ := h_r_151
    have b_r_151 : (0 : Int) ≤ r_151.toInt ∧ r_151.toInt ≤ 1 := b_r_151
    refine lv_if_eq (tgt := 32) hx hb dX10_steps_18 (by decide) (fun c_152 => ?_) (fun c_152 => ?_)
    ·
      have n_c_152 : (r_151.toInt : Int) = 0 := c_eq rfl (by decide) c_152
      have b_r_151 : (0 : Int) ≤ r_151.toInt ∧ r_151.toInt ≤ 0 := r_eq1 b_r_151 (by decide : (0 : Int) ≤ (0 : Int32).toInt ∧ (0 : Int32).toInt ≤ 0) n_c_152 (by decide)
      refine lv_bipush (v := (-2)) hx hb dX10_steps_32 (by decide) ?_
      exact W.iret (v := (-2)) hx hb hr (fun t ht hW => ⟨(-2), rfl, (rg_w (by decide : (-2 : Int) ≤ ((-2) : Int32).toInt ∧ ((-2) : Int32).toInt ≤ -2) (by decide) (by decide)), ht⟩) t_nil dX10_steps_34
    ·
      have n_c_152 : (r_151.toInt : Int) ≠ 0 := c_ne rfl (by decide) c_152
      have b_r_151 : (1 : Int) ≤ r_151.toInt ∧ r_151.toInt ≤ 1 := r_ne1 b_r_151 (by decide : (0 : Int) ≤ (0 : Int32).toInt ∧ (0 : Int32).toInt ≤ 0) n_c_152 (by decide)
      have g_153 := nz_r_151 c_152
      have lt0_g_153 := (by decide : (1 : Int64).toInt = 1)
      have lt1_g_153 := (by decide : (60 : Int64).toInt = 60)
      have b_z_150 : (1 : Int) ≤ z_150.toInt ∧ z_150.toInt ≤ 60 := by
        have q0 := b_z_150
        have q1 := (by decide : (1 : Int) ≤ (1 : Int64).toInt ∧ (1 : Int64).toInt ≤ 1)
        have q2 := (by decide : (60 : Int) ≤ (60 : Int64).toInt ∧ (60 : Int64).toInt ≤ 60)
        omega
      have b_a3 : (1 : Int) ≤ a3.toInt ∧ a3.toInt ≤ 60 := by
        have q0 := b_z_150; have q1 := q_z_150; have q2 := (ti_rng a3); omega
      refine lv_iload hx hb dX10_steps_21 (lv_at hl 4 rfl) ?_
      obtain ⟨z_154, e_z_154⟩ : ∃ y : Int64, y = a4.toInt64 := ⟨_, rfl⟩
      refine lv_i2l (v := z_154) hx hb dX10_steps_23 e_z_154.symm ?_
      obtain ⟨q_z_154, b_z_154⟩ := ti_i2l e_z_154 (ti_rng a4)
      refine lv_lconst (v := 0) hx hb dX10_steps_24 (by decide) ?_
      refine lv_lconst (v := 1) hx hb dX10_steps_25 (by decide) ?_
      refine vp_callSi (W.runS (As := [.long z_154, .long 0, .long 1]) (rest := []) ⟨hx, hb, hml, hown, hts⟩ (kX10_in l dC dI z_154 0 1 ) (va_cwS 3 hts gX10_steps__X10_in_S82 rfl rfl rfl hd_yX10_in.2 ⟨lel 1 3 rfl, lel 25 69 rfl⟩) ⟨pn_fb, pn_use⟩ rfl rfl hl.1 rfl (lv_room (Nat.le_of_ble_eq_true rfl)) dX10_steps_26 ⟨lel 0 0 rfl, lel 0 0 rfl⟩) (fun r_155 h_r_155 => ?_)
      obtain ⟨b_r_155, nz_r_155⟩ := h_r_155
      have b_r_155 : (0 : Int) ≤ r_155.toInt ∧ r_155.toInt ≤ 1 := b_r_155
      refine lv_if_ne (tgt := 35) hx hb dX10_steps_29 (by decide) (fun c_156 => ?_) (fun c_156 => ?_)
      ·
        have n_c_156 : (r_155.toInt : Int) ≠ 0 := c_ne rfl (by decide) c_156
        have b_r_155 : (1 : Int) ≤ r_155.toInt ∧ r_155.toInt ≤ 1 := r_ne1 b_r_155 (by decide : (0 : Int) ≤ (0 : Int32).toInt ∧ (0 : Int32).toInt ≤ 0) n_c_156 (by decide)
        have g_157 := nz_r_155 c_156
        have lt0_g_157 := (by decide : (0 : Int64).toInt = 0)
        have lt1_g_157 := (by decide : (1 : Int64).toInt = 1)
        have b_z_154 : (0 : Int) ≤ z_154.toInt ∧ z_154.toInt ≤ 1 := by
          have q0 := b_z_154
          have q1 := (by decide : (0 : Int) ≤ (0 : Int64).toInt ∧ (0 : Int64).toInt ≤ 0)
          have q2 := (by decide : (1 : Int) ≤ (1 : Int64).toInt ∧ (1 : Int64).toInt ≤ 1)
          omega
        have b_a4 : (0 : Int) ≤ a4.toInt ∧ a4.toInt ≤ 1 := by
          have q0 := b_z_154; have q1 := q_z_154; have q2 := (ti_rng a4); omega
        refine lv_iconst (v := (-1)) hx hb dX10_steps_35 (by decide) ?_
        refine lv_istore (lv' := [(5, .int (-1)), (0, .ref o0), (1, .int a1), (2, .int a2), (3, .int a3), (4, .int a4)]) hx hb dX10_steps_36 hl (by decide) rfl (fun ls hl => ?_)
        refine lv_iconst (v := (-1)) hx hb dX10_steps_38 (by decide) ?_
        refine lv_istore (lv' := [(6, .int (-1)), (5, .int (-1)), (0, .ref o0), (1, .int a1), (2, .int a2), (3, .int a3), (4, .int a4)]) hx hb dX10_steps_39 hl (by decide) rfl (fun ls hl => ?_)
        refine lv_iconst (v := 1) hx hb dX10_steps_41 (by decide) ?_
        refine lv_istore (lv' := [(7, .int 1), (6, .int (-1)), (5, .int (-1)), (0, .ref o0), (1, .int a1), (2, .int a2), (3, .int a3), (4, .int a4)]) hx hb dX10_steps_42 hl (by decide) rfl (fun ls hl => ?_)
        refine loopP (σ := Int32 × Int32 × Int32) (fun v => (1000 - v.1.toInt).toNat) (fun v ls => ((1 : Int) ≤ v.1.toInt ∧ v.1.toInt ≤ 1000) ∧ ((-1 : Int) ≤ v.2.1.toInt ∧ v.2.1.toInt ≤ 2147483647) ∧ ((-1 : Int) ≤ v.2.2.toInt ∧ v.2.2.toInt ≤ 1200) ∧ lv_has ls 9 [(7, .int v.1), (6, .int v.2.1), (5, .int v.2.2), (0, .ref o0), (1, .int a1), (2, .int a2), (3, .int a3), (4, .int a4)]) (fun v ls hI ih_44_281 => ?_) ((1 : Int32), (-1 : Int32), (-1 : Int32)) ⟨(show (1 : Int) ≤ (1 : Int32).toInt ∧ (1 : Int32).toInt ≤ 1000 from (rg_w (by decide : (1 : Int) ≤ (1 : Int32).toInt ∧ (1 : Int32).toInt ≤ 1) (by decide) (by decide))), (show (-1 : Int) ≤ (-1 : Int32).toInt ∧ (-1 : Int32).toInt ≤ 2147483647 from (rg_w (by decide : (-1 : Int) ≤ ((-1) : Int32).toInt ∧ ((-1) : Int32).toInt ≤ -1) (by decide) (by decide))), (show (-1 : Int) ≤ (-1 : Int32).toInt ∧ (-1 : Int32).toInt ≤ 1200 from (rg_w (by decide : (-1 : Int) ≤ ((-1) : Int32).toInt ∧ ((-1) : Int32).toInt ≤ -1) (by decide) (by decide))), lv_sub hl [0, 1, 2, 3, 4, 5, 6, 7] rfl⟩
        obtain ⟨y_169, y_170, y_171⟩ := v
        obtain ⟨b_y_169, b_y_170, b_y_171, hl⟩ := hI
        have b_y_169 : (1 : Int) ≤ y_169.toInt ∧ y_169.toInt ≤ 1000 := b_y_169
        have b_y_170 : (-1 : Int) ≤ y_170.toInt ∧ y_170.toInt ≤ 2147483647 := b_y_170
        have b_y_171 : (-1 : Int) ≤ y_171.toInt ∧ y_171.toInt ≤ 1200 := b_y_171
        have hl : lv_has ls 9 [(7, .int y_169), (6, .int y_170), (5, .int y_171), (0, .ref o0), (1, .int a1), (2, .int a2), (3, .int a3), (4, .int a4)] := hl
        refine lv_iload hx hb dX10_steps_44 (lv_at hl 0 rfl) ?_
        refine lv_sipush (v := 999) hx hb dX10_steps_46 (by decide) ?_
        refine lv_icmp_gt (tgt := 105) hx hb dX10_steps_49 (by decide) (fun c_282 => ?_) (fun c_282 => ?_)
        ·
          have n_c_282 : (999 : Int) < y_169.toInt := c_gt rfl (by decide) c_282
          have b_y_169 : (1000 : Int) ≤ y_169.toInt ∧ y_169.toInt ≤ 1000 := r_lt2 (by decide : (999 : Int) ≤ (999 : Int32).toInt ∧ (999 : Int32).toInt ≤ 999) b_y_169 n_c_282 (by decide)
          refine lv_iload hx hb dX10_steps_105 (lv_at hl 2 rfl) ?_
          exact W.iret (v := y_171) hx hb hr (fun t ht hW => ⟨y_171, rfl, (rg_w b_y_171 (by decide) (by decide)), ht⟩) t_nil dX10_steps_107
        ·
          have n_c_282 : (y_169.toInt : Int) ≤ 999 := c_ngt rfl (by decide) c_282
          have b_y_169 : (1 : Int) ≤ y_169.toInt ∧ y_169.toInt ≤ 999 := r_le1 b_y_169 (by decide : (999 : Int) ≤ (999 : Int32).toInt ∧ (999 : Int32).toInt ≤ 999) n_c_282 (by decide)
          refine lv_aload_n hx hb dX10_steps_52 rfl (lv_at hl 3 rfl) ?_
          refine lv_iload_n hx hb dX10_steps_53 rfl (lv_at hl 4 rfl) ?_
          refine lv_iload_n hx hb dX10_steps_54 rfl (lv_at hl 5 rfl) ?_
          refine lv_iload hx hb dX10_steps_55 (lv_at hl 0 rfl) ?_
          refine lv_iload_n hx hb dX10_steps_57 rfl (lv_at hl 6 rfl) ?_
          refine vp_callSi (W.runV (As := [.int a1, .int a2, .int y_169, .int a3]) (rest := []) ⟨hx, hb, hml, hown, hts⟩ (kX10_hitsOf l dC dI o0 x_th mwo mim mhi mlu mtp x_td mfv x_sz x_at x_fr x_to x_va x_fk x_fp mfr mwt x_wt x_op x_jo mfg mpl x_dr mtm mfa mqu mmo mwy mwn mma mwi mnu mmv c_wo c_lu w_wo w_lu ln bs tk lw li a1 a2 y_169 a3 b_ln b_bs b_tk b_lw b_a2 (rg_w b_y_169 (by decide) (by decide)) (hw0) (hw1) (hw2) (hw3) (hw4) (hwz) (by omega)) (cwV 4 hts gX10_steps__X10_hitsOf_V342 rfl rfl rfl hd_yX10_hitsOf ⟨lel 2 3 rfl, lel 49 69 rfl⟩) ⟨pw_fb, rcv_X10 hK hP (q0 := 0) rfl, (pw_use hP hK hN [0, 1, 2] rfl [0, 1] rfl)⟩ rfl rfl hl.1 rfl (lv_room (Nat.le_of_ble_eq_true rfl)) dX10_steps_58 ⟨lel 0 0 rfl, lel 0 0 rfl⟩) (fun r_283 h_r_283 => ?_)
          refine lv_istore (lv' := [(8, .int r_283), (7, .int y_169), (6, .int y_170), (5, .int y_171), (0, .ref o0), (1, .int a1), (2, .int a2), (3, .int a3), (4, .int a4)]) hx hb dX10_steps_61 hl (by decide) rfl (fun ls hl => ?_)
          refine lv_iload hx hb dX10_steps_63 (lv_at hl 8 rfl) ?_
          refine lv_if_ne (tgt := 76) hx hb dX10_steps_65 (by decide) (fun c_284 => ?_) (fun c_284 => ?_)
          ·
            have n_c_284 : (a4.toInt : Int) ≠ 0 := c_ne rfl (by decide) c_284
            have b_a4 : (1 : Int) ≤ a4.toInt ∧ a4.toInt ≤ 1 := r_ne1 b_a4 (by decide : (0 : Int) ≤ (0 : Int32).toInt ∧ (0 : Int32).toInt ≤ 0) n_c_284 (by decide)
            refine lv_iload hx hb dX10_steps_76 (lv_at hl 8 rfl) ?_
            refine lv_if_eq (tgt := 99) hx hb dX10_steps_78 (by decide) (fun c_285 => absurd (show (a4.toInt : Int) = 0 from c_eq rfl (by decide) c_285) (by have q1 := b_a4; have q2 := (by decide : (0 : Int) ≤ (0 : Int32).toInt ∧ (0 : Int32).toInt ≤ 0); omega)) (fun c_285 => ?_)
            refine lv_iload hx hb dX10_steps_81 (lv_at hl 0 rfl) ?_
            refine lv_iload hx hb dX10_steps_83 (lv_at hl 2 rfl) ?_
            refine cutP (σ := Int32 × Int32) (pc2 := 99) (st2 := fun v => []) (cells2 := 0) (slots2 := 0) (fun v ls => ((-1 : Int) ≤ v.1.toInt ∧ v.1.toInt ≤ 1200) ∧ ((-1 : Int) ≤ v.2.toInt ∧ v.2.toInt ≤ 2147483647) ∧ lv_has ls 9 [(5, .int v.1), (6, .int v.2), (8, .int r_283), (7, .int y_169), (0, .ref o0), (1, .int a1), (2, .int a2), (3, .int a3), (4, .int a4)]) (fun v ls hI => ?_) (fun hj_99_288 => ?_)
            ·
              obtain ⟨y_287, y_288⟩ := v
              obtain ⟨b_y_287, b_y_288, hl⟩ := hI
              have b_y_287 : (-1 : Int) ≤ y_287.toInt ∧ y_287.toInt ≤ 1200 := b_y_287
              have b_y_288 : (-1 : Int) ≤ y_288.toInt ∧ y_288.toInt ≤ 2147483647 := b_y_288
              have hl : lv_has ls 9 [(5, .int y_287), (6, .int y_288), (8, .int r_283), (7, .int y_169), (0, .ref o0), (1, .int a1), (2, .int a2), (3, .int a3), (4, .int a4)] := hl
              obtain ⟨z_289, e_z_289⟩ : ∃ y : Int32, y = y_169 + 1 := ⟨_, rfl⟩
              refine lv_iinc (v := z_289) (lv' := [(7, .int z_289), (5, .int y_287), (6, .int y_288), (8, .int r_283), (0, .ref o0), (1, .int a1), (2, .int a2), (3, .int a3), (4, .int a4)]) hx hb dX10_steps_99 hl (k := 3) rfl (by rw [e_z_289]; rfl) (by decide) rfl (fun ls hl => ?_)
              obtain ⟨q_z_289, b_z_289⟩ := ti_add (lo := 2) (hi := 1000) e_z_289 rfl (by decide : (1 : Int32).toInt = 1) b_y_169 (by decide : (1 : Int) ≤ (1 : Int32).toInt ∧ (1 : Int32).toInt ≤ 1) (by decide)
              refine lv_goto (tgt := 44) hx hb dX10_steps_102 (by decide) ?_
              exact ih_44_281 (z_289, y_288, y_287) _ ⟨(show (1 : Int) ≤ z_289.toInt ∧ z_289.toInt ≤ 1000 from (rg_w b_z_289 (by decide) (by decide))), (show (-1 : Int) ≤ y_288.toInt ∧ y_288.toInt ≤ 2147483647 from b_y_288), (show (-1 : Int) ≤ y_287.toInt ∧ y_287.toInt ≤ 1200 from b_y_287), lv_sub hl [0, 2, 1, 4, 5, 6, 7, 8] rfl⟩ (show (1000 - z_289.toInt).toNat < (1000 - y_169.toInt).toNat by omega)
            ·
              refine lv_icmp_gt (tgt := 91) hx hb dX10_steps_85 (by decide) (fun c_286 => ?_) (fun c_286 => ?_)
              ·
                have n_c_286 : (y_170.toInt : Int) < r_283.toInt := c_gt rfl rfl c_286
                have b_y_170 : (-1 : Int) ≤ y_170.toInt ∧ y_170.toInt ≤ 2147483646 := r_lt1 b_y_170 (ti_rng r_283) n_c_286 (by decide)
                have b_r_283 : (0 : Int) ≤ r_283.toInt ∧ r_283.toInt ≤ 2147483647 := r_lt2 b_y_170 (ti_rng r_283) n_c_286 (by decide)
                refine lv_iload hx hb dX10_steps_91 (lv_at hl 0 rfl) ?_
                refine lv_istore (lv' := [(6, .int r_283), (8, .int r_283), (7, .int y_169), (5, .int y_171), (0, .ref o0), (1, .int a1), (2, .int a2), (3, .int a3), (4, .int a4)]) hx hb dX10_steps_93 hl (by decide) rfl (fun ls hl => ?_)
                refine lv_iload hx hb dX10_steps_95 (lv_at hl 2 rfl) ?_
                refine lv_istore (lv' := [(5, .int y_169), (6, .int r_283), (8, .int r_283), (7, .int y_169), (0, .ref o0), (1, .int a1), (2, .int a2), (3, .int a3), (4, .int a4)]) hx hb dX10_steps_97 hl (by decide) rfl (fun ls hl => ?_)
                exact hj_99_288 (y_169, r_283) _ ⟨(show (-1 : Int) ≤ y_169.toInt ∧ y_169.toInt ≤ 1200 from (rg_w b_y_169 (by decide) (by decide))), (show (-1 : Int) ≤ r_283.toInt ∧ r_283.toInt ≤ 2147483647 from (rg_w b_r_283 (by decide) (by decide))), lv_sub hl [0, 1, 2, 3, 4, 5, 6, 7, 8] rfl⟩
              ·
                have n_c_286 : (r_283.toInt : Int) ≤ y_170.toInt := c_ngt rfl rfl c_286
                refine lv_goto (tgt := 99) hx hb dX10_steps_88 (by decide) ?_
                exact hj_99_288 (y_171, y_170) _ ⟨(show (-1 : Int) ≤ y_171.toInt ∧ y_171.toInt ≤ 1200 from b_y_171), (show (-1 : Int) ≤ y_170.toInt ∧ y_170.toInt ≤ 2147483647 from b_y_170), lv_sub hl [3, 2, 0, 1, 4, 5, 6, 7, 8] rfl⟩
          ·
            have n_c_284 : (a4.toInt : Int) = 0 := c_eq rfl (by decide) c_284
            have b_a4 : (0 : Int) ≤ a4.toInt ∧ a4.toInt ≤ 0 := r_eq1 b_a4 (by decide : (0 : Int) ≤ (0 : Int32).toInt ∧ (0 : Int32).toInt ≤ 0) n_c_284 (by decide)
            refine lv_iload hx hb dX10_steps_68 (lv_at hl 0 rfl) ?_
            refine lv_if_ne (tgt := 76) hx hb dX10_steps_70 (by decide) (fun c_290 => ?_) (fun c_290 => ?_)
            ·
              have n_c_290 : (r_283.toInt : Int) ≠ 0 := c_ne rfl (by decide) c_290
              refine lv_iload hx hb dX10_steps_76 (lv_at hl 8 rfl) ?_
              refine lv_if_eq (tgt := 99) hx hb dX10_steps_78 (by decide) (fun c_291 => ?_) (fun c_291 => absurd (show (a4.toInt : Int) ≠ 0 from c_ne rfl (by decide) c_291) (by have q1 := b_a4; have q2 := (by decide : (0 : Int) ≤ (0 : Int32).toInt ∧ (0 : Int32).toInt ≤ 0); omega))
              obtain ⟨z_292, e_z_292⟩ : ∃ y : Int32, y = y_169 + 1 := ⟨_, rfl⟩
              refine lv_iinc (v := z_292) (lv' := [(7, .int z_292), (8, .int r_283), (6, .int y_170), (5, .int y_171), (0, .ref o0), (1, .int a1), (2, .int a2), (3, .int a3), (4, .int a4)]) hx hb dX10_steps_99 hl (k := 1) rfl (by rw [e_z_292]; rfl) (by decide) rfl (fun ls hl => ?_)
              obtain ⟨q_z_292, b_z_292⟩ := ti_add (lo := 2) (hi := 1000) e_z_292 rfl (by decide : (1 : Int32).toInt = 1) b_y_169 (by decide : (1 : Int) ≤ (1 : Int32).toInt ∧ (1 : Int32).toInt ≤ 1) (by decide)
              refine lv_goto (tgt := 44) hx hb dX10_steps_102 (by decide) ?_
              exact ih_44_281 (z_292, y_170, y_171) _ ⟨(show (1 : Int) ≤ z_292.toInt ∧ z_292.toInt ≤ 1000 from (rg_w b_z_292 (by decide) (by decide))), (show (-1 : Int) ≤ y_170.toInt ∧ y_170.toInt ≤ 2147483647 from b_y_170), (show (-1 : Int) ≤ y_171.toInt ∧ y_171.toInt ≤ 1200 from b_y_171), lv_sub hl [0, 2, 3, 4, 5, 6, 7, 8] rfl⟩ (show (1000 - z_292.toInt).toNat < (1000 - y_169.toInt).toNat by omega)
            ·
              have n_c_290 : (r_283.toInt : Int) = 0 := c_eq rfl (by decide) c_290
              have b_r_283 : (0 : Int) ≤ r_283.toInt ∧ r_283.toInt ≤ 0 := r_eq1 (ti_rng r_283) (by decide : (0 : Int) ≤ (0 : Int32).toInt ∧ (0 : Int32).toInt ≤ 0) n_c_290 (by decide)
              refine lv_iload hx hb dX10_steps_73 (lv_at hl 1 rfl) ?_
              exact W.iret (v := y_169) hx hb hr (fun t ht hW => ⟨y_169, rfl, (rg_w b_y_169 (by decide) (by decide)), ht⟩) t_nil dX10_steps_75
      ·
        have n_c_156 : (r_155.toInt : Int) = 0 := c_eq rfl (by decide) c_156
        have b_r_155 : (0 : Int) ≤ r_155.toInt ∧ r_155.toInt ≤ 0 := r_eq1 b_r_155 (by decide : (0 : Int) ≤ (0 : Int32).toInt ∧ (0 : Int32).toInt ≤ 0) n_c_156 (by decide)
        refine lv_bipush (v := (-2)) hx hb dX10_steps_32 (by decide) ?_
        exact W.iret (v := (-2)) hx hb hr (fun t ht hW => ⟨(-2), rfl, (rg_w (by decide : (-2 : Int) ≤ ((-2) : Int32).toInt ∧ ((-2) : Int32).toInt ≤ -2) (by decide) (by decide)), ht⟩) t_nil dX10_steps_34
theorem dX10_divisor_0 : decode cX10_divisor 0 = .ok (.iload_n 0, 1) := by decide +kernel
theorem dX10_divisor_1 : decode cX10_divisor 1 = .ok (.istore_n 2, 1) := by decide +kernel
theorem dX10_divisor_2 : decode cX10_divisor 2 = .ok (.iload_n 1, 1) := by decide +kernel
theorem dX10_divisor_3 : decode cX10_divisor 3 = .ok (.istore_n 3, 1) := by decide +kernel
theorem dX10_divisor_4 : decode cX10_divisor 4 = .ok (.iload_n 3, 1) := by decide +kernel
theorem dX10_divisor_5 : decode cX10_divisor 5 = .ok (.ifCond .eq 16, 3) := by decide +kernel
theorem dX10_divisor_8 : decode cX10_divisor 8 = .ok (.iload_n 2, 1) := by decide +kernel
theorem dX10_divisor_9 : decode cX10_divisor 9 = .ok (.iload_n 3, 1) := by decide +kernel
theorem dX10_divisor_10 : decode cX10_divisor 10 = .ok (.irem, 1) := by decide +kernel
theorem dX10_divisor_11 : decode cX10_divisor 11 = .ok (.istore 4, 2) := by decide +kernel
theorem dX10_divisor_13 : decode cX10_divisor 13 = .ok (.iload_n 3, 1) := by decide +kernel
theorem dX10_divisor_14 : decode cX10_divisor 14 = .ok (.istore_n 2, 1) := by decide +kernel
theorem dX10_divisor_15 : decode cX10_divisor 15 = .ok (.iload 4, 2) := by decide +kernel
theorem dX10_divisor_17 : decode cX10_divisor 17 = .ok (.istore_n 3, 1) := by decide +kernel
theorem dX10_divisor_18 : decode cX10_divisor 18 = .ok (.goto (-14), 3) := by decide +kernel
theorem dX10_divisor_21 : decode cX10_divisor 21 = .ok (.iload_n 2, 1) := by decide +kernel
theorem dX10_divisor_22 : decode cX10_divisor 22 = .ok (.ireturn, 1) := by decide +kernel
theorem hd_yX10_divisor : yX10_divisor.cls = RX10 ∧ yX10_divisor.cls ≠ "java/lang/invoke/MethodHandle" ∧ yX10_divisor.cls ≠ "java/lang/invoke/VarHandle" ∧ (parseMethodDescriptor yX10_divisor.desc).map (fun d => d.parameters.length) = some 2 := by decide +kernel
def uX10_divisor : List Cond := List.cons (.code yX10_divisor cX10_divisor 5 (some .int)) ([] : List Cond)
theorem guX10_divisor : GU uX10_divisor := gu_cons (gu_all (by decide +kernel))
set_option maxHeartbeats 4000000 in
set_option maxRecDepth 100000 in
theorem kX10_divisor (l : Launch) (dC : Nat → ClassId) (dI : Nat → Nat → Nat) (a1 : Int32) (a2 : Int32) (b_a1 : (0 : Int) ≤ a1.toInt ∧ a1.toInt ≤ 40000) (b_a2 : (0 : Int) ≤ a2.toInt ∧ a2.toInt ≤ 40000) (h1 : 1 ≤ a1.toInt ∨ 1 ≤ a2.toInt) : Met l yX10_divisor uX10_divisor ({ frames := 0, cells := 0, slots := 0, locals := 0 }) (va_Pc [.int a1, .int a2] (fun _ => True)) (vp_Si (fun r => ((0 : Int) ≤ r.toInt ∧ r.toInt ≤ 40000) ∧ (1 ≤ r.toInt))) 0 0 (fun _ => False) := by
  refine Met.ofW (cc := cX10_divisor) (maxL := 5) (ret := (some .int)) pn_X10 rfl ?_
  intro p e s m args below meth c s₁ B hml hv
  obtain ⟨rfl, _⟩ := hv
  have hx := B.exec
  have hb := B.bytes
  have hr := B.returns
  have hts := atoms_spec (ws := uX10_divisor) B.pre
  have hown : s.vm.findClass RX10 = some m.cls := hown_of B.named rfl
  have hlocks := B.notSynchronized
  have hl := lv_entry ([.int a1, .int a2]) (n := 5) (Nat.le_of_ble_eq_true rfl)
  rw [lg_entry_eq]
  generalize (lg_sl ([.int a1, .int a2]) ++ List.replicate (5 - (lg_sl ([.int a1, .int a2])).length) Slot.unset).toArray = ls at hl ⊢
  have hl : lv_has ls 5 [(0, .int a1), (1, .int a2)] := hl
  refine lv_iload_n hx hb dX10_divisor_0 rfl (lv_at hl 0 rfl) ?_
  refine lv_istore_n (lv' := [(2, .int a1), (0, .int a1), (1, .int a2)]) hx hb dX10_divisor_1 rfl hl (by decide) rfl (fun ls hl => ?_)
  refine lv_iload_n hx hb dX10_divisor_2 rfl (lv_at hl 2 rfl) ?_
  refine lv_istore_n (lv' := [(3, .int a2), (2, .int a1), (0, .int a1), (1, .int a2)]) hx hb dX10_divisor_3 rfl hl (by decide) rfl (fun ls hl => ?_)
  refine loopP (σ := Int32 × Int32) (fun v => v.1.toInt.toNat) (fun v ls => ((0 : Int) ≤ v.1.toInt ∧ v.1.toInt ≤ 40000) ∧ ((0 : Int) ≤ v.2.toInt ∧ v.2.toInt ≤ 40000) ∧ (1 ≤ v.2.toInt ∨ 1 ≤ v.1.toInt) ∧ lv_has ls 5 [(3, .int v.1), (2, .int v.2), (0, .int a1), (1, .int a2)]) (fun v ls hI ih_4_14 => ?_) (a2, a1) ⟨(show (0 : Int) ≤ a2.toInt ∧ a2.toInt ≤ 40000 from b_a2), (show (0 : Int) ≤ a1.toInt ∧ a1.toInt ≤ 40000 from b_a1), (show 1 ≤ a1.toInt ∨ 1 ≤ a2.toInt from (by omega)), lv_sub hl [0, 1, 2, 3] rfl⟩
  obtain ⟨y_11, y_12⟩ := v
  obtain ⟨b_y_11, b_y_12, hx1, hl⟩ := hI
  have b_y_11 : (0 : Int) ≤ y_11.toInt ∧ y_11.toInt ≤ 40000 := b_y_11
  have b_y_12 : (0 : Int) ≤ y_12.toInt ∧ y_12.toInt ≤ 40000 := b_y_12
  have hx1 : 1 ≤ y_12.toInt ∨ 1 ≤ y_11.toInt := hx1
  have hl : lv_has ls 5 [(3, .int y_11), (2, .int y_12), (0, .int a1), (1, .int a2)] := hl
  refine lv_iload_n hx hb dX10_divisor_4 rfl (lv_at hl 0 rfl) ?_
  refine lv_if_eq (tgt := 21) hx hb dX10_divisor_5 (by decide) (fun c_15 => ?_) (fun c_15 => ?_)
  ·
    have n_c_15 : (y_11.toInt : Int) = 0 := c_eq rfl (by decide) c_15
    have b_y_11 : (0 : Int) ≤ y_11.toInt ∧ y_11.toInt ≤ 0 := r_eq1 b_y_11 (by decide : (0 : Int) ≤ (0 : Int32).toInt ∧ (0 : Int32).toInt ≤ 0) n_c_15 (by decide)
    refine lv_iload_n hx hb dX10_divisor_21 rfl (lv_at hl 1 rfl) ?_
    exact W.iret (v := y_12) hx hb hr (fun t ht hW => ⟨y_12, rfl, ⟨b_y_12, (by omega)⟩, ht⟩) t_nil dX10_divisor_22
  ·
    have n_c_15 : (y_11.toInt : Int) ≠ 0 := c_ne rfl (by decide) c_15
    have b_y_11 : (1 : Int) ≤ y_11.toInt ∧ y_11.toInt ≤ 40000 := r_ne1 b_y_11 (by decide : (0 : Int) ≤ (0 : Int32).toInt ∧ (0 : Int32).toInt ≤ 0) n_c_15 (by decide)
    refine lv_iload_n hx hb dX10_divisor_8 rfl (lv_at hl 1 rfl) ?_
    refine lv_iload_n hx hb dX10_divisor_9 rfl (lv_at hl 0 rfl) ?_
    refine lv_irem hx hb dX10_divisor_10 (ti_ne b_y_11 (by decide)) ?_
    refine lv_topi (fun z_16 e_z_16 => ?_)
    obtain ⟨q_z_16, b_z_16⟩ := ti_rem (hi := 39999) e_z_16 rfl rfl b_y_12 b_y_11 (by decide)
    refine lv_istore (lv' := [(4, .int z_16), (3, .int y_11), (2, .int y_12), (0, .int a1), (1, .int a2)]) hx hb dX10_divisor_11 hl (by decide) rfl (fun ls hl => ?_)
    refine lv_iload_n hx hb dX10_divisor_13 rfl (lv_at hl 1 rfl) ?_
    refine lv_istore_n (lv' := [(2, .int y_11), (4, .int z_16), (3, .int y_11), (0, .int a1), (1, .int a2)]) hx hb dX10_divisor_14 rfl hl (by decide) rfl (fun ls hl => ?_)
    refine lv_iload hx hb dX10_divisor_15 (lv_at hl 1 rfl) ?_
    refine lv_istore_n (lv' := [(3, .int z_16), (2, .int y_11), (4, .int z_16), (0, .int a1), (1, .int a2)]) hx hb dX10_divisor_17 rfl hl (by decide) rfl (fun ls hl => ?_)
    refine lv_goto (tgt := 4) hx hb dX10_divisor_18 (by decide) ?_
    exact ih_4_14 (z_16, y_11) _ ⟨(show (0 : Int) ≤ z_16.toInt ∧ z_16.toInt ≤ 40000 from (rg_w b_z_16 (by decide) (by decide))), (show (0 : Int) ≤ y_11.toInt ∧ y_11.toInt ≤ 40000 from (rg_w b_y_11 (by decide) (by decide))), (show 1 ≤ y_11.toInt ∨ 1 ≤ z_16.toInt from (by omega)), lv_sub hl [0, 1, 3, 4] rfl⟩ (show z_16.toInt.toNat < y_11.toInt.toNat by omega)
theorem dX10_part_0 : decode cX10_part 0 = .ok (.iload_n 0, 1) := by decide +kernel
theorem dX10_part_1 : decode cX10_part 1 = .ok (.iload_n 1, 1) := by decide +kernel
theorem dX10_part_2 : decode cX10_part 2 = .ok (.invokestatic 348, 3) := by decide +kernel
theorem dX10_part_5 : decode cX10_part 5 = .ok (.istore_n 3, 1) := by decide +kernel
theorem dX10_part_6 : decode cX10_part 6 = .ok (.iload_n 2, 1) := by decide +kernel
theorem dX10_part_7 : decode cX10_part 7 = .ok (.ifCond .ne 7, 3) := by decide +kernel
theorem dX10_part_10 : decode cX10_part 10 = .ok (.iload_n 0, 1) := by decide +kernel
theorem dX10_part_11 : decode cX10_part 11 = .ok (.goto 4, 3) := by decide +kernel
theorem dX10_part_14 : decode cX10_part 14 = .ok (.iload_n 1, 1) := by decide +kernel
theorem dX10_part_15 : decode cX10_part 15 = .ok (.iload_n 3, 1) := by decide +kernel
theorem dX10_part_16 : decode cX10_part 16 = .ok (.idiv, 1) := by decide +kernel
theorem dX10_part_17 : decode cX10_part 17 = .ok (.ireturn, 1) := by decide +kernel
theorem hd_yX10_part : yX10_part.cls = RX10 ∧ yX10_part.cls ≠ "java/lang/invoke/MethodHandle" ∧ yX10_part.cls ≠ "java/lang/invoke/VarHandle" ∧ (parseMethodDescriptor yX10_part.desc).map (fun d => d.parameters.length) = some 3 := by decide +kernel
def uX10_part : List Cond := List.cons (.code yX10_part cX10_part 4 (some .int)) (HAppend.hAppend ([.methodLink RX10 348 yX10_divisor, .static yX10_divisor, .initialized RX10] : List Cond) uX10_divisor)
theorem guX10_part : GU uX10_part := gu_cons (gu_app (by decide +kernel) guX10_divisor)
theorem gX10_part__X10_divisor_S348 : GoodIn uX10_part (va_wsS RX10 348 yX10_divisor uX10_divisor) := gin_S (List.mem_of_getElem? (i := 1) rfl) (List.mem_of_getElem? (i := 2) rfl) (List.mem_of_getElem? (i := 3) rfl) (fun _ h => (List.mem_cons_of_mem _ (List.mem_append_right _ h))) guX10_divisor
set_option maxHeartbeats 4000000 in
set_option maxRecDepth 100000 in
theorem kX10_part (l : Launch) (dC : Nat → ClassId) (dI : Nat → Nat → Nat) (a1 : Int32) (a2 : Int32) (a3 : Int32) (b_a1 : (0 : Int) ≤ a1.toInt ∧ a1.toInt ≤ 40000) (b_a2 : (0 : Int) ≤ a2.toInt ∧ a2.toInt ≤ 40000) (h1 : 1 ≤ a2.toInt) : Met l yX10_part uX10_part ({ frames := 1, cells := 0, slots := 0, locals := 24 }) (va_Pc [.int a1, .int a2, .int a3] (fun _ => True)) (vp_Si (fun r => ((0 : Int) ≤ r.toInt ∧ r.toInt ≤ 40000))) 0 0 (fun _ => False) := by
  refine Met.ofW (cc := cX10_part) (maxL := 4) (ret := (some .int)) pn_X10 rfl ?_
  intro p e s m args below meth c s₁ B hml hv
  obtain ⟨rfl, _⟩ := hv
  have hx := B.exec
  have hb := B.bytes
  have hr := B.returns
  have hts := atoms_spec (ws := uX10_part) B.pre
  have hown : s.vm.findClass RX10 = some m.cls := hown_of B.named rfl
  have hlocks := B.notSynchronized
  have hl := lv_entry ([.int a1, .int a2, .int a3]) (n := 4) (Nat.le_of_ble_eq_true rfl)
  rw [lg_entry_eq]
  generalize (lg_sl ([.int a1, .int a2, .int a3]) ++ List.replicate (4 - (lg_sl ([.int a1, .int a2, .int a3])).length) Slot.unset).toArray = ls at hl ⊢
  have hl : lv_has ls 4 [(0, .int a1), (1, .int a2), (2, .int a3)] := hl
  refine lv_iload_n hx hb dX10_part_0 rfl (lv_at hl 0 rfl) ?_
  refine lv_iload_n hx hb dX10_part_1 rfl (lv_at hl 1 rfl) ?_
  refine vp_callSi (W.runS (As := [.int a1, .int a2]) (rest := []) ⟨hx, hb, hml, hown, hts⟩ (kX10_divisor l dC dI a1 a2 b_a1 b_a2 (by omega)) (va_cwS 2 hts gX10_part__X10_divisor_S348 rfl rfl rfl hd_yX10_divisor.2 ⟨lel 1 1 rfl, lel 24 24 rfl⟩) ⟨pn_fb, pn_use⟩ rfl rfl hl.1 rfl (lv_room (Nat.le_of_ble_eq_true rfl)) dX10_part_2 ⟨lel 0 0 rfl, lel 0 0 rfl⟩) (fun r_5 h_r_5 => ?_)
  obtain ⟨b_r_5, pr_r_5⟩ := h_r_5
  have b_r_5 : (0 : Int) ≤ r_5.toInt ∧ r_5.toInt ≤ 40000 := b_r_5
  refine lv_istore_n (lv' := [(3, .int r_5), (0, .int a1), (1, .int a2), (2, .int a3)]) hx hb dX10_part_5 rfl hl (by decide) rfl (fun ls hl => ?_)
  refine lv_iload_n hx hb dX10_part_6 rfl (lv_at hl 3 rfl) ?_
  refine lv_if_ne (tgt := 14) hx hb dX10_part_7 (by decide) (fun c_6 => ?_) (fun c_6 => ?_)
  ·
    have n_c_6 : (a3.toInt : Int) ≠ 0 := c_ne rfl (by decide) c_6
    refine lv_iload_n hx hb dX10_part_14 rfl (lv_at hl 2 rfl) ?_
    refine lv_iload_n hx hb dX10_part_15 rfl (lv_at hl 0 rfl) ?_
    have b_r_5 : (1 : Int) ≤ r_5.toInt ∧ r_5.toInt ≤ 40000 := ⟨by omega, (b_r_5).2⟩
    refine lv_idiv hx hb dX10_part_16 (ti_ne b_r_5 (by decide)) ?_
    refine lv_topi (fun z_7 e_z_7 => ?_)
    obtain ⟨q_z_7, b_z_7⟩ := ti_div (hi := 40000) e_z_7 rfl rfl b_a2 b_r_5 (by decide)
    exact W.iret (v := z_7) hx hb hr (fun t ht hW => ⟨z_7, rfl, b_z_7, ht⟩) t_nil dX10_part_17
  ·
    have n_c_6 : (a3.toInt : Int) = 0 := c_eq rfl (by decide) c_6
    have b_a3 : (0 : Int) ≤ a3.toInt ∧ a3.toInt ≤ 0 := r_eq1 (ti_rng a3) (by decide : (0 : Int) ≤ (0 : Int32).toInt ∧ (0 : Int32).toInt ≤ 0) n_c_6 (by decide)
    refine lv_iload_n hx hb dX10_part_10 rfl (lv_at hl 1 rfl) ?_
    refine lv_goto (tgt := 15) hx hb dX10_part_11 (by decide) ?_
    refine lv_iload_n hx hb dX10_part_15 rfl (lv_at hl 0 rfl) ?_
    have b_r_5 : (1 : Int) ≤ r_5.toInt ∧ r_5.toInt ≤ 40000 := ⟨by omega, (b_r_5).2⟩
    refine lv_idiv hx hb dX10_part_16 (ti_ne b_r_5 (by decide)) ?_
    refine lv_topi (fun z_8 e_z_8 => ?_)
    obtain ⟨q_z_8, b_z_8⟩ := ti_div (hi := 40000) e_z_8 rfl rfl b_a1 b_r_5 (by decide)
    exact W.iret (v := z_8) hx hb hr (fun t ht hW => ⟨z_8, rfl, b_z_8, ht⟩) t_nil dX10_part_17
theorem dX10_chance_0 : decode cX10_chance 0 = .ok (.aload_n 0, 1) := by decide +kernel
theorem dX10_chance_1 : decode cX10_chance 1 = .ok (.iload_n 1, 1) := by decide +kernel
theorem dX10_chance_2 : decode cX10_chance 2 = .ok (.invokevirtual 89, 3) := by decide +kernel
theorem dX10_chance_5 : decode cX10_chance 5 = .ok (.ifCond .eq 31, 3) := by decide +kernel
theorem dX10_chance_8 : decode cX10_chance 8 = .ok (.iload_n 2, 1) := by decide +kernel
theorem dX10_chance_9 : decode cX10_chance 9 = .ok (.i2l, 1) := by decide +kernel
theorem dX10_chance_10 : decode cX10_chance 10 = .ok (.lconst 0, 1) := by decide +kernel
theorem dX10_chance_11 : decode cX10_chance 11 = .ok (.lconst 1, 1) := by decide +kernel
theorem dX10_chance_12 : decode cX10_chance 12 = .ok (.invokestatic 82, 3) := by decide +kernel
theorem dX10_chance_15 : decode cX10_chance 15 = .ok (.ifCond .eq 21, 3) := by decide +kernel
theorem dX10_chance_18 : decode cX10_chance 18 = .ok (.aload_n 0, 1) := by decide +kernel
theorem dX10_chance_19 : decode cX10_chance 19 = .ok (.iload_n 1, 1) := by decide +kernel
theorem dX10_chance_20 : decode cX10_chance 20 = .ok (.invokevirtual 322, 3) := by decide +kernel
theorem dX10_chance_23 : decode cX10_chance 23 = .ok (.aload_n 0, 1) := by decide +kernel
theorem dX10_chance_24 : decode cX10_chance 24 = .ok (.getfield 9, 3) := by decide +kernel
theorem dX10_chance_27 : decode cX10_chance 27 = .ok (.iconst 2, 1) := by decide +kernel
theorem dX10_chance_28 : decode cX10_chance 28 = .ok (.iaload, 1) := by decide +kernel
theorem dX10_chance_29 : decode cX10_chance 29 = .ok (.iload_n 2, 1) := by decide +kernel
theorem dX10_chance_30 : decode cX10_chance 30 = .ok (.invokestatic 351, 3) := by decide +kernel
theorem dX10_chance_33 : decode cX10_chance 33 = .ok (.goto 5, 3) := by decide +kernel
theorem dX10_chance_36 : decode cX10_chance 36 = .ok (.bipush (-2), 2) := by decide +kernel
theorem dX10_chance_38 : decode cX10_chance 38 = .ok (.ireturn, 1) := by decide +kernel
theorem hd_yX10_chance : yX10_chance.cls = RX10 ∧ yX10_chance.cls ≠ "java/lang/invoke/MethodHandle" ∧ yX10_chance.cls ≠ "java/lang/invoke/VarHandle" ∧ (parseMethodDescriptor yX10_chance.desc).map (fun d => d.parameters.length) = some 2 := by decide +kernel
def uX10_chance : List Cond := List.cons (.code yX10_chance cX10_chance 3 (some .int)) (HAppend.hAppend ([.methodLink RX10 89 yX10_isLaw, .instanceMethod yX10_isLaw, .selects RX10 yX10_isLaw yX10_isLaw, .initialized RX10, .methodLink RX10 82 yX10_in, .static yX10_in, .methodLink RX10 322 yX10_allOf, .instanceMethod yX10_allOf, .selects RX10 yX10_allOf yX10_allOf, .fieldLink RX10 9 "LuckyTicketModel" "world" "[I", .methodLink RX10 351 yX10_part, .static yX10_part] : List Cond) (HAppend.hAppend uX10_isLaw (HAppend.hAppend uX10_in (HAppend.hAppend uX10_allOf (HAppend.hAppend uX10_part wsX100)))))
theorem iX10_chance_X10 : ∀ w ∈ wsX100, w ∈ uX10_chance := fun _ h => (List.mem_cons_of_mem _ (List.mem_append_right _ (List.mem_append_right _ (List.mem_append_right _ (List.mem_append_right _ (List.mem_append_right _ h))))))
theorem guX10_chance : GU uX10_chance := gu_cons (gu_app (by decide +kernel) (gu_ap guX10_isLaw (gu_ap guX10_in (gu_ap guX10_allOf (gu_ap guX10_part gws_X10)))))
theorem gX10_chance__X10_isLaw_V89 : GoodIn uX10_chance (wsV RX10 89 RX10 yX10_isLaw uX10_isLaw) := gin_V (List.mem_of_getElem? (i := 1) rfl) (List.mem_of_getElem? (i := 2) rfl) (List.mem_of_getElem? (i := 3) rfl) (List.mem_of_getElem? (i := 4) rfl) (fun _ h => (List.mem_cons_of_mem _ (List.mem_append_right _ (List.mem_append_left _ h)))) guX10_isLaw
theorem gX10_chance__X10_in_S82 : GoodIn uX10_chance (va_wsS RX10 82 yX10_in uX10_in) := gin_S (List.mem_of_getElem? (i := 5) rfl) (List.mem_of_getElem? (i := 6) rfl) (List.mem_of_getElem? (i := 4) rfl) (fun _ h => (List.mem_cons_of_mem _ (List.mem_append_right _ (List.mem_append_right _ (List.mem_append_left _ h))))) guX10_in
theorem gX10_chance__X10_allOf_V322 : GoodIn uX10_chance (wsV RX10 322 RX10 yX10_allOf uX10_allOf) := gin_V (List.mem_of_getElem? (i := 7) rfl) (List.mem_of_getElem? (i := 8) rfl) (List.mem_of_getElem? (i := 9) rfl) (List.mem_of_getElem? (i := 4) rfl) (fun _ h => (List.mem_cons_of_mem _ (List.mem_append_right _ (List.mem_append_right _ (List.mem_append_right _ (List.mem_append_left _ h)))))) guX10_allOf
theorem gX10_chance__X10_part_S351 : GoodIn uX10_chance (va_wsS RX10 351 yX10_part uX10_part) := gin_S (List.mem_of_getElem? (i := 11) rfl) (List.mem_of_getElem? (i := 12) rfl) (List.mem_of_getElem? (i := 4) rfl) (fun _ h => (List.mem_cons_of_mem _ (List.mem_append_right _ (List.mem_append_right _ (List.mem_append_right _ (List.mem_append_right _ (List.mem_append_left _ h))))))) guX10_part
set_option maxHeartbeats 4000000 in
set_option maxRecDepth 100000 in
theorem kX10_chance (l : Launch) (dC : Nat → ClassId) (dI : Nat → Nat → Nat) (o0 : Nat) (x_th : Int32) (mwo : Nat) (mim : Nat) (mhi : Nat) (mlu : Nat) (mtp : Nat) (x_td : Int32) (mfv : Nat) (x_sz : Int32) (x_at : Int32) (x_fr : Int32) (x_to : Int32) (x_va : Int32) (x_fk : Int32) (x_fp : Int32) (mfr : Nat) (mwt : Nat) (x_wt : Int32) (x_op : Int32) (x_jo : Int32) (mfg : Nat) (mpl : Nat) (x_dr : Int64) (mtm : Nat) (mfa : Nat) (mqu : Nat) (mmo : Nat) (mwy : Nat) (mwn : Nat) (mma : Nat) (mwi : Nat) (mnu : Nat) (mmv : Nat) (c_wo : ClassId) (c_lu : ClassId) (w_wo : Nat → Int32) (w_lu : Nat → Int32) (ln : Int32) (bs : Int32) (tk : Int32) (lw : Int32) (li : Int32) (a1 : Int32) (a2 : Int32) (b_ln : (0 : Int) ≤ ln.toInt ∧ ln.toInt ≤ 12) (b_bs : (0 : Int) ≤ bs.toInt ∧ bs.toInt ≤ 16) (b_tk : (0 : Int) ≤ tk.toInt ∧ tk.toInt ≤ 20000) (b_lw : (0 : Int) ≤ lw.toInt ∧ lw.toInt ≤ 9) (hw0 : w_wo 0 = ln) (hw1 : w_wo 1 = bs) (hw2 : w_wo 2 = tk) (hw3 : w_wo 3 = lw) (hw4 : w_wo 4 = li) (hwz : (ln.toInt = 0 ∧ bs.toInt = 0 ∧ tk.toInt = 0 ∧ lw.toInt = 0) ∨ (1 ≤ ln.toInt ∧ 2 ≤ bs.toInt ∧ 1 ≤ tk.toInt)) : Met l yX10_chance uX10_chance ({ frames := 2, cells := 0, slots := 0, locals := 47 }) (va_Pc [.ref o0, .int a1, .int a2] (pw (dC, dI) vwCl [(o0, .inr (8, [.int x_th, .ref mwo, .ref mim, .ref mhi, .ref mlu, .ref mtp, .int x_td, .ref mfv, .int x_sz, .int x_at, .int x_fr, .int x_to, .int x_va, .int x_fk, .int x_fp, .ref mfr, .ref mwt, .int x_wt, .int x_op, .int x_jo, .ref mfg, .ref mpl, .long x_dr, .ref mtm, .ref mfa, .ref mqu, .ref mmo, .ref mwy, .ref mwn, .ref mma, .ref mwi, .ref mnu, .ref mmv])), (mwo, .inl (c_wo, 1875, .inl w_wo)), (mlu, .inl (c_lu, 20000, .inl w_lu))] [(c_wo, .int), (c_lu, .int)])) (vp_Si (fun r => ((-2 : Int) ≤ r.toInt ∧ r.toInt ≤ 40000))) 0 0 (fun _ => False) := by
  refine Met.ofW (cc := cX10_chance) (maxL := 3) (ret := (some .int)) pn_X10 rfl ?_
  intro p e s m args below meth c s₁ B hml hv
  obtain ⟨rfl, hP, hK, hN⟩ := hv
  have hx := B.exec
  have hb := B.bytes
  have hr := B.returns
  have hts := atoms_spec (ws := uX10_chance) B.pre
  have hown : s.vm.findClass RX10 = some m.cls := hown_of B.named rfl
  have hlocks := B.notSynchronized
  have hl := lv_entry ([.ref o0, .int a1, .int a2]) (n := 3) (Nat.le_of_ble_eq_true rfl)
  rw [lg_entry_eq]
  generalize (lg_sl ([.ref o0, .int a1, .int a2]) ++ List.replicate (3 - (lg_sl ([.ref o0, .int a1, .int a2])).length) Slot.unset).toArray = ls at hl ⊢
  have hl : lv_has ls 3 [(0, .ref o0), (1, .int a1), (2, .int a2)] := hl
  refine lv_aload_n hx hb dX10_chance_0 rfl (lv_at hl 0 rfl) ?_
  refine lv_iload_n hx hb dX10_chance_1 rfl (lv_at hl 1 rfl) ?_
  refine vp_callSi (W.runV (As := [.int a1]) (rest := []) ⟨hx, hb, hml, hown, hts⟩ (kX10_isLaw l dC dI o0 x_th mwo mim mhi mlu mtp x_td mfv x_sz x_at x_fr x_to x_va x_fk x_fp mfr mwt x_wt x_op x_jo mfg mpl x_dr mtm mfa mqu mmo mwy mwn mma mwi mnu mmv c_wo w_wo ln bs tk lw li a1 b_ln b_bs b_tk b_lw (hw0) (hw1) (hw2) (hw3) (hw4) (hwz)) (cwV 1 hts gX10_chance__X10_isLaw_V89 rfl rfl rfl hd_yX10_isLaw ⟨lel 2 2 rfl, lel 46 47 rfl⟩) ⟨pw_fb, rcv_X10 hK hP (q0 := 0) rfl, (pw_use hP hK hN [0, 1] rfl [0] rfl)⟩ rfl rfl hl.1 rfl (lv_room (Nat.le_of_ble_eq_true rfl)) dX10_chance_2 ⟨lel 0 0 rfl, lel 0 0 rfl⟩) (fun r_11 h_r_11 => ?_)
  obtain ⟨b_r_11, nz_r_11⟩ := h_r_11
  have b_r_11 : (0 : Int) ≤ r_11.toInt ∧ r_11.toInt ≤ 1 := b_r_11
  refine lv_if_eq (tgt := 36) hx hb dX10_chance_5 (by decide) (fun c_12 => ?_) (fun c_12 => ?_)
  ·
    have n_c_12 : (r_11.toInt : Int) = 0 := c_eq rfl (by decide) c_12
    have b_r_11 : (0 : Int) ≤ r_11.toInt ∧ r_11.toInt ≤ 0 := r_eq1 b_r_11 (by decide : (0 : Int) ≤ (0 : Int32).toInt ∧ (0 : Int32).toInt ≤ 0) n_c_12 (by decide)
    refine lv_bipush (v := (-2)) hx hb dX10_chance_36 (by decide) ?_
    exact W.iret (v := (-2)) hx hb hr (fun t ht hW => ⟨(-2), rfl, (rg_w (by decide : (-2 : Int) ≤ ((-2) : Int32).toInt ∧ ((-2) : Int32).toInt ≤ -2) (by decide) (by decide)), ht⟩) t_nil dX10_chance_38
  ·
    have n_c_12 : (r_11.toInt : Int) ≠ 0 := c_ne rfl (by decide) c_12
    have b_r_11 : (1 : Int) ≤ r_11.toInt ∧ r_11.toInt ≤ 1 := r_ne1 b_r_11 (by decide : (0 : Int) ≤ (0 : Int32).toInt ∧ (0 : Int32).toInt ≤ 0) n_c_12 (by decide)
    obtain ⟨b_a1, g_13⟩ := nz_r_11 c_12
    refine lv_iload_n hx hb dX10_chance_8 rfl (lv_at hl 2 rfl) ?_
    obtain ⟨z_14, e_z_14⟩ : ∃ y : Int64, y = a2.toInt64 := ⟨_, rfl⟩
    refine lv_i2l (v := z_14) hx hb dX10_chance_9 e_z_14.symm ?_
    obtain ⟨q_z_14, b_z_14⟩ := ti_i2l e_z_14 (ti_rng a2)
    refine lv_lconst (v := 0) hx hb dX10_chance_10 (by decide) ?_
    refine lv_lconst (v := 1) hx hb dX10_chance_11 (by decide) ?_
    refine vp_callSi (W.runS (As := [.long z_14, .long 0, .long 1]) (rest := []) ⟨hx, hb, hml, hown, hts⟩ (kX10_in l dC dI z_14 0 1 ) (va_cwS 3 hts gX10_chance__X10_in_S82 rfl rfl rfl hd_yX10_in.2 ⟨lel 1 2 rfl, lel 25 47 rfl⟩) ⟨pn_fb, pn_use⟩ rfl rfl hl.1 rfl (lv_room (Nat.le_of_ble_eq_true rfl)) dX10_chance_12 ⟨lel 0 0 rfl, lel 0 0 rfl⟩) (fun r_15 h_r_15 => ?_)
    obtain ⟨b_r_15, nz_r_15⟩ := h_r_15
    have b_r_15 : (0 : Int) ≤ r_15.toInt ∧ r_15.toInt ≤ 1 := b_r_15
    refine lv_if_eq (tgt := 36) hx hb dX10_chance_15 (by decide) (fun c_16 => ?_) (fun c_16 => ?_)
    ·
      have n_c_16 : (r_15.toInt : Int) = 0 := c_eq rfl (by decide) c_16
      have b_r_15 : (0 : Int) ≤ r_15.toInt ∧ r_15.toInt ≤ 0 := r_eq1 b_r_15 (by decide : (0 : Int) ≤ (0 : Int32).toInt ∧ (0 : Int32).toInt ≤ 0) n_c_16 (by decide)
      refine lv_bipush (v := (-2)) hx hb dX10_chance_36 (by decide) ?_
      exact W.iret (v := (-2)) hx hb hr (fun t ht hW => ⟨(-2), rfl, (rg_w (by decide : (-2 : Int) ≤ ((-2) : Int32).toInt ∧ ((-2) : Int32).toInt ≤ -2) (by decide) (by decide)), ht⟩) t_nil dX10_chance_38
    ·
      have n_c_16 : (r_15.toInt : Int) ≠ 0 := c_ne rfl (by decide) c_16
      have b_r_15 : (1 : Int) ≤ r_15.toInt ∧ r_15.toInt ≤ 1 := r_ne1 b_r_15 (by decide : (0 : Int) ≤ (0 : Int32).toInt ∧ (0 : Int32).toInt ≤ 0) n_c_16 (by decide)
      have g_17 := nz_r_15 c_16
      have lt0_g_17 := (by decide : (0 : Int64).toInt = 0)
      have lt1_g_17 := (by decide : (1 : Int64).toInt = 1)
      have b_z_14 : (0 : Int) ≤ z_14.toInt ∧ z_14.toInt ≤ 1 := by
        have q0 := b_z_14
        have q1 := (by decide : (0 : Int) ≤ (0 : Int64).toInt ∧ (0 : Int64).toInt ≤ 0)
        have q2 := (by decide : (1 : Int) ≤ (1 : Int64).toInt ∧ (1 : Int64).toInt ≤ 1)
        omega
      have b_a2 : (0 : Int) ≤ a2.toInt ∧ a2.toInt ≤ 1 := by
        have q0 := b_z_14; have q1 := q_z_14; have q2 := (ti_rng a2); omega
      refine lv_aload_n hx hb dX10_chance_18 rfl (lv_at hl 0 rfl) ?_
      refine lv_iload_n hx hb dX10_chance_19 rfl (lv_at hl 1 rfl) ?_
      refine vp_callSi (W.runV (As := [.int a1]) (rest := []) ⟨hx, hb, hml, hown, hts⟩ (kX10_allOf l dC dI o0 x_th mwo mim mhi mlu mtp x_td mfv x_sz x_at x_fr x_to x_va x_fk x_fp mfr mwt x_wt x_op x_jo mfg mpl x_dr mtm mfa mqu mmo mwy mwn mma mwi mnu mmv c_wo c_lu w_wo w_lu ln bs tk lw li a1 b_ln b_bs b_tk b_lw (hw0) (hw1) (hw2) (hw3) (hw4) (hwz)) (cwV 1 hts gX10_chance__X10_allOf_V322 rfl rfl rfl hd_yX10_allOf ⟨lel 2 2 rfl, lel 45 47 rfl⟩) ⟨pw_fb, rcv_X10 hK hP (q0 := 0) rfl, (pw_use hP hK hN [0, 1, 2] rfl [0, 1] rfl)⟩ rfl rfl hl.1 rfl (lv_room (Nat.le_of_ble_eq_true rfl)) dX10_chance_20 ⟨lel 0 0 rfl, lel 0 0 rfl⟩) (fun r_18 h_r_18 => ?_)
      obtain ⟨b_r_18, pr_r_18⟩ := h_r_18
      have b_r_18 : (0 : Int) ≤ r_18.toInt ∧ r_18.toInt ≤ 20000 := b_r_18
      refine lv_aload_n hx hb dX10_chance_23 rfl (lv_at hl 0 rfl) ?_
      refine va_get (D := (dC, dI)) (ci := 8) (v := .ref mwo) (C := RX10) (T := TX10) (N := 33) hx hb hts iX10_chance_X10 hown hK hP 0 rfl rfl 1 (by decide) (hts (.fieldLink RX10 9 "LuckyTicketModel" "world" "[I") (List.mem_of_getElem? (i := 10) rfl)) (fun _ h9 => h9) rfl dX10_chance_24 ?_
      refine lv_iconst (v := 2) hx hb dX10_chance_27 (by decide) ?_
      refine va_iald hx hb hK hP 1 0 rfl rfl (vp_in_b (by decide : (2 : Int) ≤ (2 : Int32).toInt ∧ (2 : Int32).toInt ≤ 2) (by decide) (by decide)) dX10_chance_28 ?_
      refine lv_topi (fun z_19 e_z_19 => ?_)
      obtain rfl : tk = z_19 := (e_z_19.trans hw2).symm
      refine lv_iload_n hx hb dX10_chance_29 rfl (lv_at hl 2 rfl) ?_
      refine vp_callSi (W.runS (As := [.int r_18, .int tk, .int a2]) (rest := []) ⟨hx, hb, hml, hown, hts⟩ (kX10_part l dC dI r_18 tk a2 (rg_w b_r_18 (by decide) (by decide)) (rg_w b_tk (by decide) (by decide)) (by omega)) (va_cwS 3 hts gX10_chance__X10_part_S351 rfl rfl rfl hd_yX10_part.2 ⟨lel 2 2 rfl, lel 47 47 rfl⟩) ⟨pn_fb, pn_use⟩ rfl rfl hl.1 rfl (lv_room (Nat.le_of_ble_eq_true rfl)) dX10_chance_30 ⟨lel 0 0 rfl, lel 0 0 rfl⟩) (fun r_20 h_r_20 => ?_)
      have b_r_20 := h_r_20
      have b_r_20 : (0 : Int) ≤ r_20.toInt ∧ r_20.toInt ≤ 40000 := b_r_20
      refine lv_goto (tgt := 38) hx hb dX10_chance_33 (by decide) ?_
      exact W.iret (v := r_20) hx hb hr (fun t ht hW => ⟨r_20, rfl, (rg_w b_r_20 (by decide) (by decide)), ht⟩) t_nil dX10_chance_38
theorem dX10_share_0 : decode cX10_share 0 = .ok (.aload_n 0, 1) := by decide +kernel
theorem dX10_share_1 : decode cX10_share 1 = .ok (.iload_n 1, 1) := by decide +kernel
theorem dX10_share_2 : decode cX10_share 2 = .ok (.invokevirtual 89, 3) := by decide +kernel
theorem dX10_share_5 : decode cX10_share 5 = .ok (.ifCond .eq 13, 3) := by decide +kernel
theorem dX10_share_8 : decode cX10_share 8 = .ok (.iload_n 2, 1) := by decide +kernel
theorem dX10_share_9 : decode cX10_share 9 = .ok (.i2l, 1) := by decide +kernel
theorem dX10_share_10 : decode cX10_share 10 = .ok (.lconst 0, 1) := by decide +kernel
theorem dX10_share_11 : decode cX10_share 11 = .ok (.lconst 1, 1) := by decide +kernel
theorem dX10_share_12 : decode cX10_share 12 = .ok (.invokestatic 82, 3) := by decide +kernel
theorem dX10_share_15 : decode cX10_share 15 = .ok (.ifCond .ne 6, 3) := by decide +kernel
theorem dX10_share_18 : decode cX10_share 18 = .ok (.bipush (-2), 2) := by decide +kernel
theorem dX10_share_20 : decode cX10_share 20 = .ok (.ireturn, 1) := by decide +kernel
theorem dX10_share_21 : decode cX10_share 21 = .ok (.aload_n 0, 1) := by decide +kernel
theorem dX10_share_22 : decode cX10_share 22 = .ok (.iload_n 1, 1) := by decide +kernel
theorem dX10_share_23 : decode cX10_share 23 = .ok (.invokevirtual 322, 3) := by decide +kernel
theorem dX10_share_26 : decode cX10_share 26 = .ok (.istore_n 3, 1) := by decide +kernel
theorem dX10_share_27 : decode cX10_share 27 = .ok (.iload_n 3, 1) := by decide +kernel
theorem dX10_share_28 : decode cX10_share 28 = .ok (.ifCond .ne 7, 3) := by decide +kernel
theorem dX10_share_31 : decode cX10_share 31 = .ok (.iconst (-1), 1) := by decide +kernel
theorem dX10_share_32 : decode cX10_share 32 = .ok (.goto 23, 3) := by decide +kernel
theorem dX10_share_35 : decode cX10_share 35 = .ok (.aload_n 0, 1) := by decide +kernel
theorem dX10_share_36 : decode cX10_share 36 = .ok (.getfield 9, 3) := by decide +kernel
theorem dX10_share_39 : decode cX10_share 39 = .ok (.iconst 2, 1) := by decide +kernel
theorem dX10_share_40 : decode cX10_share 40 = .ok (.iaload, 1) := by decide +kernel
theorem dX10_share_41 : decode cX10_share 41 = .ok (.iconst 2, 1) := by decide +kernel
theorem dX10_share_42 : decode cX10_share 42 = .ok (.aload_n 0, 1) := by decide +kernel
theorem dX10_share_43 : decode cX10_share 43 = .ok (.getfield 9, 3) := by decide +kernel
theorem dX10_share_46 : decode cX10_share 46 = .ok (.iconst 2, 1) := by decide +kernel
theorem dX10_share_47 : decode cX10_share 47 = .ok (.iaload, 1) := by decide +kernel
theorem dX10_share_48 : decode cX10_share 48 = .ok (.imul, 1) := by decide +kernel
theorem dX10_share_49 : decode cX10_share 49 = .ok (.iload_n 3, 1) := by decide +kernel
theorem dX10_share_50 : decode cX10_share 50 = .ok (.isub, 1) := by decide +kernel
theorem dX10_share_51 : decode cX10_share 51 = .ok (.iload_n 2, 1) := by decide +kernel
theorem dX10_share_52 : decode cX10_share 52 = .ok (.invokestatic 351, 3) := by decide +kernel
theorem dX10_share_55 : decode cX10_share 55 = .ok (.ireturn, 1) := by decide +kernel
theorem hd_yX10_share : yX10_share.cls = RX10 ∧ yX10_share.cls ≠ "java/lang/invoke/MethodHandle" ∧ yX10_share.cls ≠ "java/lang/invoke/VarHandle" ∧ (parseMethodDescriptor yX10_share.desc).map (fun d => d.parameters.length) = some 2 := by decide +kernel
def uX10_share : List Cond := List.cons (.code yX10_share cX10_share 4 (some .int)) (HAppend.hAppend ([.methodLink RX10 89 yX10_isLaw, .instanceMethod yX10_isLaw, .selects RX10 yX10_isLaw yX10_isLaw, .initialized RX10, .methodLink RX10 82 yX10_in, .static yX10_in, .methodLink RX10 322 yX10_allOf, .instanceMethod yX10_allOf, .selects RX10 yX10_allOf yX10_allOf, .fieldLink RX10 9 "LuckyTicketModel" "world" "[I", .methodLink RX10 351 yX10_part, .static yX10_part] : List Cond) (HAppend.hAppend uX10_isLaw (HAppend.hAppend uX10_in (HAppend.hAppend uX10_allOf (HAppend.hAppend uX10_part wsX100)))))
theorem iX10_share_X10 : ∀ w ∈ wsX100, w ∈ uX10_share := fun _ h => (List.mem_cons_of_mem _ (List.mem_append_right _ (List.mem_append_right _ (List.mem_append_right _ (List.mem_append_right _ (List.mem_append_right _ h))))))
theorem guX10_share : GU uX10_share := gu_cons (gu_app (by decide +kernel) (gu_ap guX10_isLaw (gu_ap guX10_in (gu_ap guX10_allOf (gu_ap guX10_part gws_X10)))))
theorem gX10_share__X10_isLaw_V89 : GoodIn uX10_share (wsV RX10 89 RX10 yX10_isLaw uX10_isLaw) := gin_V (List.mem_of_getElem? (i := 1) rfl) (List.mem_of_getElem? (i := 2) rfl) (List.mem_of_getElem? (i := 3) rfl) (List.mem_of_getElem? (i := 4) rfl) (fun _ h => (List.mem_cons_of_mem _ (List.mem_append_right _ (List.mem_append_left _ h)))) guX10_isLaw
theorem gX10_share__X10_in_S82 : GoodIn uX10_share (va_wsS RX10 82 yX10_in uX10_in) := gin_S (List.mem_of_getElem? (i := 5) rfl) (List.mem_of_getElem? (i := 6) rfl) (List.mem_of_getElem? (i := 4) rfl) (fun _ h => (List.mem_cons_of_mem _ (List.mem_append_right _ (List.mem_append_right _ (List.mem_append_left _ h))))) guX10_in
theorem gX10_share__X10_allOf_V322 : GoodIn uX10_share (wsV RX10 322 RX10 yX10_allOf uX10_allOf) := gin_V (List.mem_of_getElem? (i := 7) rfl) (List.mem_of_getElem? (i := 8) rfl) (List.mem_of_getElem? (i := 9) rfl) (List.mem_of_getElem? (i := 4) rfl) (fun _ h => (List.mem_cons_of_mem _ (List.mem_append_right _ (List.mem_append_right _ (List.mem_append_right _ (List.mem_append_left _ h)))))) guX10_allOf
theorem gX10_share__X10_part_S351 : GoodIn uX10_share (va_wsS RX10 351 yX10_part uX10_part) := gin_S (List.mem_of_getElem? (i := 11) rfl) (List.mem_of_getElem? (i := 12) rfl) (List.mem_of_getElem? (i := 4) rfl) (fun _ h => (List.mem_cons_of_mem _ (List.mem_append_right _ (List.mem_append_right _ (List.mem_append_right _ (List.mem_append_right _ (List.mem_append_left _ h))))))) guX10_part
set_option maxHeartbeats 4000000 in
set_option maxRecDepth 100000 in
theorem kX10_share (l : Launch) (dC : Nat → ClassId) (dI : Nat → Nat → Nat) (o0 : Nat) (x_th : Int32) (mwo : Nat) (mim : Nat) (mhi : Nat) (mlu : Nat) (mtp : Nat) (x_td : Int32) (mfv : Nat) (x_sz : Int32) (x_at : Int32) (x_fr : Int32) (x_to : Int32) (x_va : Int32) (x_fk : Int32) (x_fp : Int32) (mfr : Nat) (mwt : Nat) (x_wt : Int32) (x_op : Int32) (x_jo : Int32) (mfg : Nat) (mpl : Nat) (x_dr : Int64) (mtm : Nat) (mfa : Nat) (mqu : Nat) (mmo : Nat) (mwy : Nat) (mwn : Nat) (mma : Nat) (mwi : Nat) (mnu : Nat) (mmv : Nat) (c_wo : ClassId) (c_lu : ClassId) (w_wo : Nat → Int32) (w_lu : Nat → Int32) (ln : Int32) (bs : Int32) (tk : Int32) (lw : Int32) (li : Int32) (a1 : Int32) (a2 : Int32) (b_ln : (0 : Int) ≤ ln.toInt ∧ ln.toInt ≤ 12) (b_bs : (0 : Int) ≤ bs.toInt ∧ bs.toInt ≤ 16) (b_tk : (0 : Int) ≤ tk.toInt ∧ tk.toInt ≤ 20000) (b_lw : (0 : Int) ≤ lw.toInt ∧ lw.toInt ≤ 9) (hw0 : w_wo 0 = ln) (hw1 : w_wo 1 = bs) (hw2 : w_wo 2 = tk) (hw3 : w_wo 3 = lw) (hw4 : w_wo 4 = li) (hwz : (ln.toInt = 0 ∧ bs.toInt = 0 ∧ tk.toInt = 0 ∧ lw.toInt = 0) ∨ (1 ≤ ln.toInt ∧ 2 ≤ bs.toInt ∧ 1 ≤ tk.toInt)) : Met l yX10_share uX10_share ({ frames := 2, cells := 0, slots := 0, locals := 47 }) (va_Pc [.ref o0, .int a1, .int a2] (pw (dC, dI) vwCl [(o0, .inr (8, [.int x_th, .ref mwo, .ref mim, .ref mhi, .ref mlu, .ref mtp, .int x_td, .ref mfv, .int x_sz, .int x_at, .int x_fr, .int x_to, .int x_va, .int x_fk, .int x_fp, .ref mfr, .ref mwt, .int x_wt, .int x_op, .int x_jo, .ref mfg, .ref mpl, .long x_dr, .ref mtm, .ref mfa, .ref mqu, .ref mmo, .ref mwy, .ref mwn, .ref mma, .ref mwi, .ref mnu, .ref mmv])), (mwo, .inl (c_wo, 1875, .inl w_wo)), (mlu, .inl (c_lu, 20000, .inl w_lu))] [(c_wo, .int), (c_lu, .int)])) (vp_Si (fun r => ((-2 : Int) ≤ r.toInt ∧ r.toInt ≤ 40000))) 0 0 (fun _ => False) := by
  refine Met.ofW (cc := cX10_share) (maxL := 4) (ret := (some .int)) pn_X10 rfl ?_
  intro p e s m args below meth c s₁ B hml hv
  obtain ⟨rfl, hP, hK, hN⟩ := hv
  have hx := B.exec
  have hb := B.bytes
  have hr := B.returns
  have hts := atoms_spec (ws := uX10_share) B.pre
  have hown : s.vm.findClass RX10 = some m.cls := hown_of B.named rfl
  have hlocks := B.notSynchronized
  have hl := lv_entry ([.ref o0, .int a1, .int a2]) (n := 4) (Nat.le_of_ble_eq_true rfl)
  rw [lg_entry_eq]
  generalize (lg_sl ([.ref o0, .int a1, .int a2]) ++ List.replicate (4 - (lg_sl ([.ref o0, .int a1, .int a2])).length) Slot.unset).toArray = ls at hl ⊢
  have hl : lv_has ls 4 [(0, .ref o0), (1, .int a1), (2, .int a2)] := hl
  refine lv_aload_n hx hb dX10_share_0 rfl (lv_at hl 0 rfl) ?_
  refine lv_iload_n hx hb dX10_share_1 rfl (lv_at hl 1 rfl) ?_
  refine vp_callSi (W.runV (As := [.int a1]) (rest := []) ⟨hx, hb, hml, hown, hts⟩ (kX10_isLaw l dC dI o0 x_th mwo mim mhi mlu mtp x_td mfv x_sz x_at x_fr x_to x_va x_fk x_fp mfr mwt x_wt x_op x_jo mfg mpl x_dr mtm mfa mqu mmo mwy mwn mma mwi mnu mmv c_wo w_wo ln bs tk lw li a1 b_ln b_bs b_tk b_lw (hw0) (hw1) (hw2) (hw3) (hw4) (hwz)) (cwV 1 hts gX10_share__X10_isLaw_V89 rfl rfl rfl hd_yX10_isLaw ⟨lel 2 2 rfl, lel 46 47 rfl⟩) ⟨pw_fb, rcv_X10 hK hP (q0 := 0) rfl, (pw_use hP hK hN [0, 1] rfl [0] rfl)⟩ rfl rfl hl.1 rfl (lv_room (Nat.le_of_ble_eq_true rfl)) dX10_share_2 ⟨lel 0 0 rfl, lel 0 0 rfl⟩) (fun r_15 h_r_15 => ?_)
  obtain ⟨b_r_15, nz_r_15⟩ := h_r_15
  have b_r_15 : (0 : Int) ≤ r_15.toInt ∧ r_15.toInt ≤ 1 := b_r_15
  refine lv_if_eq (tgt := 18) hx hb dX10_share_5 (by decide) (fun c_16 => ?_) (fun c_16 => ?_)
  ·
    have n_c_16 : (r_15.toInt : Int) = 0 := c_eq rfl (by decide) c_16
    have b_r_15 : (0 : Int) ≤ r_15.toInt ∧ r_15.toInt ≤ 0 := r_eq1 b_r_15 (by decide : (0 : Int) ≤ (0 : Int32).toInt ∧ (0 : Int32).toInt ≤ 0) n_c_16 (by decide)
    refine lv_bipush (v := (-2)) hx hb dX10_share_18 (by decide) ?_
    exact W.iret (v := (-2)) hx hb hr (fun t ht hW => ⟨(-2), rfl, (rg_w (by decide : (-2 : Int) ≤ ((-2) : Int32).toInt ∧ ((-2) : Int32).toInt ≤ -2) (by decide) (by decide)), ht⟩) t_nil dX10_share_20
  ·
    have n_c_16 : (r_15.toInt : Int) ≠ 0 := c_ne rfl (by decide) c_16
    have b_r_15 : (1 : Int) ≤ r_15.toInt ∧ r_15.toInt ≤ 1 := r_ne1 b_r_15 (by decide : (0 : Int) ≤ (0 : Int32).toInt ∧ (0 : Int32).toInt ≤ 0) n_c_16 (by decide)
    obtain ⟨b_a1, g_17⟩ := nz_r_15 c_16
    refine lv_iload_n hx hb dX10_share_8 rfl (lv_at hl 2 rfl) ?_
    obtain ⟨z_18, e_z_18⟩ : ∃ y : Int64, y = a2.toInt64 := ⟨_, rfl⟩
    refine lv_i2l (v := z_18) hx hb dX10_share_9 e_z_18.symm ?_
    obtain ⟨q_z_18, b_z_18⟩ := ti_i2l e_z_18 (ti_rng a2)
    refine lv_lconst (v := 0) hx hb dX10_share_10 (by decide) ?_
    refine lv_lconst (v := 1) hx hb dX10_share_11 (by decide) ?_
    refine vp_callSi (W.runS (As := [.long z_18, .long 0, .long 1]) (rest := []) ⟨hx, hb, hml, hown, hts⟩ (kX10_in l dC dI z_18 0 1 ) (va_cwS 3 hts gX10_share__X10_in_S82 rfl rfl rfl hd_yX10_in.2 ⟨lel 1 2 rfl, lel 25 47 rfl⟩) ⟨pn_fb, pn_use⟩ rfl rfl hl.1 rfl (lv_room (Nat.le_of_ble_eq_true rfl)) dX10_share_12 ⟨lel 0 0 rfl, lel 0 0 rfl⟩) (fun r_19 h_r_19 => ?_)
    obtain ⟨b_r_19, nz_r_19⟩ := h_r_19
    have b_r_19 : (0 : Int) ≤ r_19.toInt ∧ r_19.toInt ≤ 1 := b_r_19
    refine lv_if_ne (tgt := 21) hx hb dX10_share_15 (by decide) (fun c_20 => ?_) (fun c_20 => ?_)
    ·
      have n_c_20 : (r_19.toInt : Int) ≠ 0 := c_ne rfl (by decide) c_20
      have b_r_19 : (1 : Int) ≤ r_19.toInt ∧ r_19.toInt ≤ 1 := r_ne1 b_r_19 (by decide : (0 : Int) ≤ (0 : Int32).toInt ∧ (0 : Int32).toInt ≤ 0) n_c_20 (by decide)
      have g_21 := nz_r_19 c_20
      have lt0_g_21 := (by decide : (0 : Int64).toInt = 0)
      have lt1_g_21 := (by decide : (1 : Int64).toInt = 1)
      have b_z_18 : (0 : Int) ≤ z_18.toInt ∧ z_18.toInt ≤ 1 := by
        have q0 := b_z_18
        have q1 := (by decide : (0 : Int) ≤ (0 : Int64).toInt ∧ (0 : Int64).toInt ≤ 0)
        have q2 := (by decide : (1 : Int) ≤ (1 : Int64).toInt ∧ (1 : Int64).toInt ≤ 1)
        omega
      have b_a2 : (0 : Int) ≤ a2.toInt ∧ a2.toInt ≤ 1 := by
        have q0 := b_z_18; have q1 := q_z_18; have q2 := (ti_rng a2); omega
      refine lv_aload_n hx hb dX10_share_21 rfl (lv_at hl 0 rfl) ?_
      refine lv_iload_n hx hb dX10_share_22 rfl (lv_at hl 1 rfl) ?_
      refine vp_callSi (W.runV (As := [.int a1]) (rest := []) ⟨hx, hb, hml, hown, hts⟩ (kX10_allOf l dC dI o0 x_th mwo mim mhi mlu mtp x_td mfv x_sz x_at x_fr x_to x_va x_fk x_fp mfr mwt x_wt x_op x_jo mfg mpl x_dr mtm mfa mqu mmo mwy mwn mma mwi mnu mmv c_wo c_lu w_wo w_lu ln bs tk lw li a1 b_ln b_bs b_tk b_lw (hw0) (hw1) (hw2) (hw3) (hw4) (hwz)) (cwV 1 hts gX10_share__X10_allOf_V322 rfl rfl rfl hd_yX10_allOf ⟨lel 2 2 rfl, lel 45 47 rfl⟩) ⟨pw_fb, rcv_X10 hK hP (q0 := 0) rfl, (pw_use hP hK hN [0, 1, 2] rfl [0, 1] rfl)⟩ rfl rfl hl.1 rfl (lv_room (Nat.le_of_ble_eq_true rfl)) dX10_share_23 ⟨lel 0 0 rfl, lel 0 0 rfl⟩) (fun r_22 h_r_22 => ?_)
      obtain ⟨b_r_22, pr_r_22⟩ := h_r_22
      have b_r_22 : (0 : Int) ≤ r_22.toInt ∧ r_22.toInt ≤ 20000 := b_r_22
      refine lv_istore_n (lv' := [(3, .int r_22), (0, .ref o0), (1, .int a1), (2, .int a2)]) hx hb dX10_share_26 rfl hl (by decide) rfl (fun ls hl => ?_)
      refine lv_iload_n hx hb dX10_share_27 rfl (lv_at hl 0 rfl) ?_
      refine lv_if_ne (tgt := 35) hx hb dX10_share_28 (by decide) (fun c_23 => ?_) (fun c_23 => ?_)
      ·
        have n_c_23 : (r_22.toInt : Int) ≠ 0 := c_ne rfl (by decide) c_23
        have b_r_22 : (1 : Int) ≤ r_22.toInt ∧ r_22.toInt ≤ 20000 := r_ne1 b_r_22 (by decide : (0 : Int) ≤ (0 : Int32).toInt ∧ (0 : Int32).toInt ≤ 0) n_c_23 (by decide)
        refine lv_aload_n hx hb dX10_share_35 rfl (lv_at hl 1 rfl) ?_
        refine va_get (D := (dC, dI)) (ci := 8) (v := .ref mwo) (C := RX10) (T := TX10) (N := 33) hx hb hts iX10_share_X10 hown hK hP 0 rfl rfl 1 (by decide) (hts (.fieldLink RX10 9 "LuckyTicketModel" "world" "[I") (List.mem_of_getElem? (i := 10) rfl)) (fun _ h9 => h9) rfl dX10_share_36 ?_
        refine lv_iconst (v := 2) hx hb dX10_share_39 (by decide) ?_
        refine va_iald hx hb hK hP 1 0 rfl rfl (vp_in_b (by decide : (2 : Int) ≤ (2 : Int32).toInt ∧ (2 : Int32).toInt ≤ 2) (by decide) (by decide)) dX10_share_40 ?_
        refine lv_topi (fun z_24 e_z_24 => ?_)
        obtain rfl : tk = z_24 := (e_z_24.trans hw2).symm
        refine lv_iconst (v := 2) hx hb dX10_share_41 (by decide) ?_
        refine lv_aload_n hx hb dX10_share_42 rfl (lv_at hl 1 rfl) ?_
        refine va_get (D := (dC, dI)) (ci := 8) (v := .ref mwo) (C := RX10) (T := TX10) (N := 33) hx hb hts iX10_share_X10 hown hK hP 0 rfl rfl 1 (by decide) (hts (.fieldLink RX10 9 "LuckyTicketModel" "world" "[I") (List.mem_of_getElem? (i := 10) rfl)) (fun _ h9 => h9) rfl dX10_share_43 ?_
        refine lv_iconst (v := 2) hx hb dX10_share_46 (by decide) ?_
        refine va_iald hx hb hK hP 1 0 rfl rfl (vp_in_b (by decide : (2 : Int) ≤ (2 : Int32).toInt ∧ (2 : Int32).toInt ≤ 2) (by decide) (by decide)) dX10_share_47 ?_
        refine lv_topi (fun z_25 e_z_25 => ?_)
        obtain rfl : tk = z_25 := (e_z_25.trans hw2).symm
        refine lv_imul hx hb dX10_share_48 ?_
        refine lv_topi (fun z_26 e_z_26 => ?_)
        obtain ⟨q_z_26, b_z_26⟩ := ti_mul (lo := 0) (hi := 40000) e_z_26 (by decide : (2 : Int32).toInt = 2) rfl (by decide : (2 : Int) ≤ (2 : Int32).toInt ∧ (2 : Int32).toInt ≤ 2) b_tk (by decide)
        refine lv_iload_n hx hb dX10_share_49 rfl (lv_at hl 0 rfl) ?_
        refine lv_isub hx hb dX10_share_50 ?_
        refine lv_topi (fun z_27 e_z_27 => ?_)
        obtain ⟨q_z_27, b_z_27⟩ := ti_sub (lo := -20000) (hi := 39999) e_z_27 rfl rfl b_z_26 b_r_22 (by decide)
        refine lv_iload_n hx hb dX10_share_51 rfl (lv_at hl 3 rfl) ?_
        refine vp_callSi (W.runS (As := [.int tk, .int z_27, .int a2]) (rest := []) ⟨hx, hb, hml, hown, hts⟩ (kX10_part l dC dI tk z_27 a2 (rg_w b_tk (by decide) (by decide)) ⟨by omega, by omega⟩ (by omega)) (va_cwS 3 hts gX10_share__X10_part_S351 rfl rfl rfl hd_yX10_part.2 ⟨lel 2 2 rfl, lel 47 47 rfl⟩) ⟨pn_fb, pn_use⟩ rfl rfl hl.1 rfl (lv_room (Nat.le_of_ble_eq_true rfl)) dX10_share_52 ⟨lel 0 0 rfl, lel 0 0 rfl⟩) (fun r_28 h_r_28 => ?_)
        have b_r_28 := h_r_28
        have b_r_28 : (0 : Int) ≤ r_28.toInt ∧ r_28.toInt ≤ 40000 := b_r_28
        exact W.iret (v := r_28) hx hb hr (fun t ht hW => ⟨r_28, rfl, (rg_w b_r_28 (by decide) (by decide)), ht⟩) t_nil dX10_share_55
      ·
        have n_c_23 : (r_22.toInt : Int) = 0 := c_eq rfl (by decide) c_23
        have b_r_22 : (0 : Int) ≤ r_22.toInt ∧ r_22.toInt ≤ 0 := r_eq1 b_r_22 (by decide : (0 : Int) ≤ (0 : Int32).toInt ∧ (0 : Int32).toInt ≤ 0) n_c_23 (by decide)
        refine lv_iconst (v := (-1)) hx hb dX10_share_31 (by decide) ?_
        refine lv_goto (tgt := 55) hx hb dX10_share_32 (by decide) ?_
        exact W.iret (v := (-1)) hx hb hr (fun t ht hW => ⟨(-1), rfl, (rg_w (by decide : (-1 : Int) ≤ ((-1) : Int32).toInt ∧ ((-1) : Int32).toInt ≤ -1) (by decide) (by decide)), ht⟩) t_nil dX10_share_55
    ·
      have n_c_20 : (r_19.toInt : Int) = 0 := c_eq rfl (by decide) c_20
      have b_r_19 : (0 : Int) ≤ r_19.toInt ∧ r_19.toInt ≤ 0 := r_eq1 b_r_19 (by decide : (0 : Int) ≤ (0 : Int32).toInt ∧ (0 : Int32).toInt ≤ 0) n_c_20 (by decide)
      refine lv_bipush (v := (-2)) hx hb dX10_share_18 (by decide) ?_
      exact W.iret (v := (-2)) hx hb hr (fun t ht hW => ⟨(-2), rfl, (rg_w (by decide : (-2 : Int) ≤ ((-2) : Int32).toInt ∧ ((-2) : Int32).toInt ≤ -2) (by decide) (by decide)), ht⟩) t_nil dX10_share_20
theorem dX10_whose_0 : decode cX10_whose 0 = .ok (.aload_n 0, 1) := by decide +kernel
theorem dX10_whose_1 : decode cX10_whose 1 = .ok (.iload_n 1, 1) := by decide +kernel
theorem dX10_whose_2 : decode cX10_whose 2 = .ok (.iload_n 2, 1) := by decide +kernel
theorem dX10_whose_3 : decode cX10_whose 3 = .ok (.invokevirtual 313, 3) := by decide +kernel
theorem dX10_whose_6 : decode cX10_whose 6 = .ok (.ifCond .ne 6, 3) := by decide +kernel
theorem dX10_whose_9 : decode cX10_whose 9 = .ok (.bipush (-2), 2) := by decide +kernel
theorem dX10_whose_11 : decode cX10_whose 11 = .ok (.ireturn, 1) := by decide +kernel
theorem dX10_whose_12 : decode cX10_whose 12 = .ok (.aload_n 0, 1) := by decide +kernel
theorem dX10_whose_13 : decode cX10_whose 13 = .ok (.iload_n 1, 1) := by decide +kernel
theorem dX10_whose_14 : decode cX10_whose 14 = .ok (.iload_n 2, 1) := by decide +kernel
theorem dX10_whose_15 : decode cX10_whose 15 = .ok (.invokevirtual 325, 3) := by decide +kernel
theorem dX10_whose_18 : decode cX10_whose 18 = .ok (.istore_n 3, 1) := by decide +kernel
theorem dX10_whose_19 : decode cX10_whose 19 = .ok (.iload_n 3, 1) := by decide +kernel
theorem dX10_whose_20 : decode cX10_whose 20 = .ok (.iconst (-1), 1) := by decide +kernel
theorem dX10_whose_21 : decode cX10_whose 21 = .ok (.if_icmp .ne 7, 3) := by decide +kernel
theorem dX10_whose_24 : decode cX10_whose 24 = .ok (.iconst (-1), 1) := by decide +kernel
theorem dX10_whose_25 : decode cX10_whose 25 = .ok (.goto 8, 3) := by decide +kernel
theorem dX10_whose_28 : decode cX10_whose 28 = .ok (.iload_n 3, 1) := by decide +kernel
theorem dX10_whose_29 : decode cX10_whose 29 = .ok (.iload_n 2, 1) := by decide +kernel
theorem dX10_whose_30 : decode cX10_whose 30 = .ok (.isub, 1) := by decide +kernel
theorem dX10_whose_31 : decode cX10_whose 31 = .ok (.iconst 2, 1) := by decide +kernel
theorem dX10_whose_32 : decode cX10_whose 32 = .ok (.irem, 1) := by decide +kernel
theorem dX10_whose_33 : decode cX10_whose 33 = .ok (.ireturn, 1) := by decide +kernel
theorem hd_yX10_whose : yX10_whose.cls = RX10 ∧ yX10_whose.cls ≠ "java/lang/invoke/MethodHandle" ∧ yX10_whose.cls ≠ "java/lang/invoke/VarHandle" ∧ (parseMethodDescriptor yX10_whose.desc).map (fun d => d.parameters.length) = some 2 := by decide +kernel
def uX10_whose : List Cond := List.cons (.code yX10_whose cX10_whose 4 (some .int)) (HAppend.hAppend ([.methodLink RX10 313 yX10_isBoth, .instanceMethod yX10_isBoth, .selects RX10 yX10_isBoth yX10_isBoth, .initialized RX10, .methodLink RX10 325 yX10_nextOf, .instanceMethod yX10_nextOf, .selects RX10 yX10_nextOf yX10_nextOf] : List Cond) (HAppend.hAppend uX10_isBoth uX10_nextOf))
theorem guX10_whose : GU uX10_whose := gu_cons (gu_app (by decide +kernel) (gu_ap guX10_isBoth guX10_nextOf))
theorem gX10_whose__X10_isBoth_V313 : GoodIn uX10_whose (wsV RX10 313 RX10 yX10_isBoth uX10_isBoth) := gin_V (List.mem_of_getElem? (i := 1) rfl) (List.mem_of_getElem? (i := 2) rfl) (List.mem_of_getElem? (i := 3) rfl) (List.mem_of_getElem? (i := 4) rfl) (fun _ h => (List.mem_cons_of_mem _ (List.mem_append_right _ (List.mem_append_left _ h)))) guX10_isBoth
theorem gX10_whose__X10_nextOf_V325 : GoodIn uX10_whose (wsV RX10 325 RX10 yX10_nextOf uX10_nextOf) := gin_V (List.mem_of_getElem? (i := 5) rfl) (List.mem_of_getElem? (i := 6) rfl) (List.mem_of_getElem? (i := 7) rfl) (List.mem_of_getElem? (i := 4) rfl) (fun _ h => (List.mem_cons_of_mem _ (List.mem_append_right _ (List.mem_append_right _ h)))) guX10_nextOf
set_option maxHeartbeats 4000000 in
set_option maxRecDepth 100000 in
theorem kX10_whose (l : Launch) (dC : Nat → ClassId) (dI : Nat → Nat → Nat) (o0 : Nat) (x_th : Int32) (mwo : Nat) (mim : Nat) (mhi : Nat) (mlu : Nat) (mtp : Nat) (x_td : Int32) (mfv : Nat) (x_sz : Int32) (x_at : Int32) (x_fr : Int32) (x_to : Int32) (x_va : Int32) (x_fk : Int32) (x_fp : Int32) (mfr : Nat) (mwt : Nat) (x_wt : Int32) (x_op : Int32) (x_jo : Int32) (mfg : Nat) (mpl : Nat) (x_dr : Int64) (mtm : Nat) (mfa : Nat) (mqu : Nat) (mmo : Nat) (mwy : Nat) (mwn : Nat) (mma : Nat) (mwi : Nat) (mnu : Nat) (mmv : Nat) (c_wo : ClassId) (c_lu : ClassId) (w_wo : Nat → Int32) (w_lu : Nat → Int32) (ln : Int32) (bs : Int32) (tk : Int32) (lw : Int32) (li : Int32) (a1 : Int32) (a2 : Int32) (b_ln : (0 : Int) ≤ ln.toInt ∧ ln.toInt ≤ 12) (b_bs : (0 : Int) ≤ bs.toInt ∧ bs.toInt ≤ 16) (b_tk : (0 : Int) ≤ tk.toInt ∧ tk.toInt ≤ 20000) (b_lw : (0 : Int) ≤ lw.toInt ∧ lw.toInt ≤ 9) (hw0 : w_wo 0 = ln) (hw1 : w_wo 1 = bs) (hw2 : w_wo 2 = tk) (hw3 : w_wo 3 = lw) (hw4 : w_wo 4 = li) (hwz : (ln.toInt = 0 ∧ bs.toInt = 0 ∧ tk.toInt = 0 ∧ lw.toInt = 0) ∨ (1 ≤ ln.toInt ∧ 2 ≤ bs.toInt ∧ 1 ≤ tk.toInt)) : Met l yX10_whose uX10_whose ({ frames := 3, cells := 0, slots := 0, locals := 69 }) (va_Pc [.ref o0, .int a1, .int a2] (pw (dC, dI) vwCl [(o0, .inr (8, [.int x_th, .ref mwo, .ref mim, .ref mhi, .ref mlu, .ref mtp, .int x_td, .ref mfv, .int x_sz, .int x_at, .int x_fr, .int x_to, .int x_va, .int x_fk, .int x_fp, .ref mfr, .ref mwt, .int x_wt, .int x_op, .int x_jo, .ref mfg, .ref mpl, .long x_dr, .ref mtm, .ref mfa, .ref mqu, .ref mmo, .ref mwy, .ref mwn, .ref mma, .ref mwi, .ref mnu, .ref mmv])), (mwo, .inl (c_wo, 1875, .inl w_wo)), (mlu, .inl (c_lu, 20000, .inl w_lu))] [(c_wo, .int), (c_lu, .int)])) (vp_Si (fun r => True)) 0 0 (fun _ => False) := by
  refine Met.ofW (cc := cX10_whose) (maxL := 4) (ret := (some .int)) pn_X10 rfl ?_
  intro p e s m args below meth c s₁ B hml hv
  obtain ⟨rfl, hP, hK, hN⟩ := hv
  have hx := B.exec
  have hb := B.bytes
  have hr := B.returns
  have hts := atoms_spec (ws := uX10_whose) B.pre
  have hown : s.vm.findClass RX10 = some m.cls := hown_of B.named rfl
  have hlocks := B.notSynchronized
  have hl := lv_entry ([.ref o0, .int a1, .int a2]) (n := 4) (Nat.le_of_ble_eq_true rfl)
  rw [lg_entry_eq]
  generalize (lg_sl ([.ref o0, .int a1, .int a2]) ++ List.replicate (4 - (lg_sl ([.ref o0, .int a1, .int a2])).length) Slot.unset).toArray = ls at hl ⊢
  have hl : lv_has ls 4 [(0, .ref o0), (1, .int a1), (2, .int a2)] := hl
  refine lv_aload_n hx hb dX10_whose_0 rfl (lv_at hl 0 rfl) ?_
  refine lv_iload_n hx hb dX10_whose_1 rfl (lv_at hl 1 rfl) ?_
  refine lv_iload_n hx hb dX10_whose_2 rfl (lv_at hl 2 rfl) ?_
  refine vp_callSi (W.runV (As := [.int a1, .int a2]) (rest := []) ⟨hx, hb, hml, hown, hts⟩ (kX10_isBoth l dC dI o0 x_th mwo mim mhi mlu mtp x_td mfv x_sz x_at x_fr x_to x_va x_fk x_fp mfr mwt x_wt x_op x_jo mfg mpl x_dr mtm mfa mqu mmo mwy mwn mma mwi mnu mmv c_wo w_wo ln bs tk lw li a1 a2 b_ln b_bs b_tk b_lw (hw0) (hw1) (hw2) (hw3) (hw4) (hwz)) (cwV 2 hts gX10_whose__X10_isBoth_V313 rfl rfl rfl hd_yX10_isBoth ⟨lel 3 3 rfl, lel 69 69 rfl⟩) ⟨pw_fb, rcv_X10 hK hP (q0 := 0) rfl, (pw_use hP hK hN [0, 1] rfl [0] rfl)⟩ rfl rfl hl.1 rfl (lv_room (Nat.le_of_ble_eq_true rfl)) dX10_whose_3 ⟨lel 0 0 rfl, lel 0 0 rfl⟩) (fun r_8 h_r_8 => ?_)
  obtain ⟨b_r_8, nz_r_8⟩ := h_r_8
  have b_r_8 : (0 : Int) ≤ r_8.toInt ∧ r_8.toInt ≤ 1 := b_r_8
  refine lv_if_ne (tgt := 12) hx hb dX10_whose_6 (by decide) (fun c_9 => ?_) (fun c_9 => ?_)
  ·
    have n_c_9 : (r_8.toInt : Int) ≠ 0 := c_ne rfl (by decide) c_9
    have b_r_8 : (1 : Int) ≤ r_8.toInt ∧ r_8.toInt ≤ 1 := r_ne1 b_r_8 (by decide : (0 : Int) ≤ (0 : Int32).toInt ∧ (0 : Int32).toInt ≤ 0) n_c_9 (by decide)
    obtain ⟨b_a1, b_a2, g_10⟩ := nz_r_8 c_9
    refine lv_aload_n hx hb dX10_whose_12 rfl (lv_at hl 0 rfl) ?_
    refine lv_iload_n hx hb dX10_whose_13 rfl (lv_at hl 1 rfl) ?_
    refine lv_iload_n hx hb dX10_whose_14 rfl (lv_at hl 2 rfl) ?_
    refine vp_callSi (W.runV (As := [.int a1, .int a2]) (rest := []) ⟨hx, hb, hml, hown, hts⟩ (kX10_nextOf l dC dI o0 x_th mwo mim mhi mlu mtp x_td mfv x_sz x_at x_fr x_to x_va x_fk x_fp mfr mwt x_wt x_op x_jo mfg mpl x_dr mtm mfa mqu mmo mwy mwn mma mwi mnu mmv c_wo c_lu w_wo w_lu ln bs tk lw li a1 a2 b_ln b_bs b_tk b_lw (rg_w b_a2 (by decide) (by decide)) (hw0) (hw1) (hw2) (hw3) (hw4) (hwz)) (cwV 2 hts gX10_whose__X10_nextOf_V325 rfl rfl rfl hd_yX10_nextOf ⟨lel 2 3 rfl, lel 45 69 rfl⟩) ⟨pw_fb, rcv_X10 hK hP (q0 := 0) rfl, (pw_use hP hK hN [0, 1, 2] rfl [0, 1] rfl)⟩ rfl rfl hl.1 rfl (lv_room (Nat.le_of_ble_eq_true rfl)) dX10_whose_15 ⟨lel 0 0 rfl, lel 0 0 rfl⟩) (fun r_11 h_r_11 => ?_)
    obtain ⟨b_r_11, pr_r_11⟩ := h_r_11
    have b_r_11 : (-1 : Int) ≤ r_11.toInt ∧ r_11.toInt ≤ 19999 := b_r_11
    refine lv_istore_n (lv' := [(3, .int r_11), (0, .ref o0), (1, .int a1), (2, .int a2)]) hx hb dX10_whose_18 rfl hl (by decide) rfl (fun ls hl => ?_)
    refine lv_iload_n hx hb dX10_whose_19 rfl (lv_at hl 0 rfl) ?_
    refine lv_iconst (v := (-1)) hx hb dX10_whose_20 (by decide) ?_
    refine lv_icmp_ne (tgt := 28) hx hb dX10_whose_21 (by decide) (fun c_12 => ?_) (fun c_12 => ?_)
    ·
      have n_c_12 : (r_11.toInt : Int) ≠ (-1) := c_ne rfl (by decide) c_12
      have b_r_11 : (0 : Int) ≤ r_11.toInt ∧ r_11.toInt ≤ 19999 := r_ne1 b_r_11 (by decide : (-1 : Int) ≤ ((-1) : Int32).toInt ∧ ((-1) : Int32).toInt ≤ -1) n_c_12 (by decide)
      refine lv_iload_n hx hb dX10_whose_28 rfl (lv_at hl 0 rfl) ?_
      refine lv_iload_n hx hb dX10_whose_29 rfl (lv_at hl 3 rfl) ?_
      refine lv_isub hx hb dX10_whose_30 ?_
      refine lv_topi (fun z_13 e_z_13 => ?_)
      obtain ⟨q_z_13, b_z_13⟩ := ti_sub (lo := -19999) (hi := 19999) e_z_13 rfl rfl b_r_11 b_a2 (by decide)
      refine lv_iconst (v := 2) hx hb dX10_whose_31 (by decide) ?_
      refine lv_irem hx hb dX10_whose_32 (by decide) ?_
      refine lv_topi (fun z_14 e_z_14 => ?_)
      exact W.iret (v := z_14) hx hb hr (fun t ht hW => ⟨z_14, rfl, trivial, ht⟩) t_nil dX10_whose_33
    ·
      have n_c_12 : (r_11.toInt : Int) = (-1) := c_eq rfl (by decide) c_12
      have b_r_11 : (-1 : Int) ≤ r_11.toInt ∧ r_11.toInt ≤ -1 := r_eq1 b_r_11 (by decide : (-1 : Int) ≤ ((-1) : Int32).toInt ∧ ((-1) : Int32).toInt ≤ -1) n_c_12 (by decide)
      refine lv_iconst (v := (-1)) hx hb dX10_whose_24 (by decide) ?_
      refine lv_goto (tgt := 33) hx hb dX10_whose_25 (by decide) ?_
      exact W.iret (v := (-1)) hx hb hr (fun t ht hW => ⟨(-1), rfl, trivial, ht⟩) t_nil dX10_whose_33
  ·
    have n_c_9 : (r_8.toInt : Int) = 0 := c_eq rfl (by decide) c_9
    have b_r_8 : (0 : Int) ≤ r_8.toInt ∧ r_8.toInt ≤ 0 := r_eq1 b_r_8 (by decide : (0 : Int) ≤ (0 : Int32).toInt ∧ (0 : Int32).toInt ≤ 0) n_c_9 (by decide)
    refine lv_bipush (v := (-2)) hx hb dX10_whose_9 (by decide) ?_
    exact W.iret (v := (-2)) hx hb hr (fun t ht hW => ⟨(-2), rfl, trivial, ht⟩) t_nil dX10_whose_11
theorem dX10_isSet_0 : decode cX10_isSet 0 = .ok (.aload_n 0, 1) := by decide +kernel
theorem dX10_isSet_1 : decode cX10_isSet 1 = .ok (.invokevirtual 355, 3) := by decide +kernel
theorem dX10_isSet_4 : decode cX10_isSet 4 = .ok (.ifCond .eq 27, 3) := by decide +kernel
theorem dX10_isSet_7 : decode cX10_isSet 7 = .ok (.iload_n 1, 1) := by decide +kernel
theorem dX10_isSet_8 : decode cX10_isSet 8 = .ok (.i2l, 1) := by decide +kernel
theorem dX10_isSet_9 : decode cX10_isSet 9 = .ok (.lconst 0, 1) := by decide +kernel
theorem dX10_isSet_10 : decode cX10_isSet 10 = .ok (.iconst 1, 1) := by decide +kernel
theorem dX10_isSet_11 : decode cX10_isSet 11 = .ok (.aload_n 0, 1) := by decide +kernel
theorem dX10_isSet_12 : decode cX10_isSet 12 = .ok (.getfield 9, 3) := by decide +kernel
theorem dX10_isSet_15 : decode cX10_isSet 15 = .ok (.iconst 3, 1) := by decide +kernel
theorem dX10_isSet_16 : decode cX10_isSet 16 = .ok (.iaload, 1) := by decide +kernel
theorem dX10_isSet_17 : decode cX10_isSet 17 = .ok (.ishl, 1) := by decide +kernel
theorem dX10_isSet_18 : decode cX10_isSet 18 = .ok (.iconst 1, 1) := by decide +kernel
theorem dX10_isSet_19 : decode cX10_isSet 19 = .ok (.isub, 1) := by decide +kernel
theorem dX10_isSet_20 : decode cX10_isSet 20 = .ok (.i2l, 1) := by decide +kernel
theorem dX10_isSet_21 : decode cX10_isSet 21 = .ok (.invokestatic 82, 3) := by decide +kernel
theorem dX10_isSet_24 : decode cX10_isSet 24 = .ok (.ifCond .eq 7, 3) := by decide +kernel
theorem dX10_isSet_27 : decode cX10_isSet 27 = .ok (.iconst 1, 1) := by decide +kernel
theorem dX10_isSet_28 : decode cX10_isSet 28 = .ok (.goto 4, 3) := by decide +kernel
theorem dX10_isSet_31 : decode cX10_isSet 31 = .ok (.iconst 0, 1) := by decide +kernel
theorem dX10_isSet_32 : decode cX10_isSet 32 = .ok (.ireturn, 1) := by decide +kernel
theorem hd_yX10_isSet : yX10_isSet.cls = RX10 ∧ yX10_isSet.cls ≠ "java/lang/invoke/MethodHandle" ∧ yX10_isSet.cls ≠ "java/lang/invoke/VarHandle" ∧ (parseMethodDescriptor yX10_isSet.desc).map (fun d => d.parameters.length) = some 1 := by decide +kernel
def uX10_isSet : List Cond := List.cons (.code yX10_isSet cX10_isSet 2 (some .boolean)) (HAppend.hAppend ([.methodLink RX10 355 yX10_isRoll, .instanceMethod yX10_isRoll, .selects RX10 yX10_isRoll yX10_isRoll, .initialized RX10, .fieldLink RX10 9 "LuckyTicketModel" "world" "[I", .methodLink RX10 82 yX10_in, .static yX10_in] : List Cond) (HAppend.hAppend uX10_isRoll (HAppend.hAppend uX10_in wsX100)))
theorem iX10_isSet_X10 : ∀ w ∈ wsX100, w ∈ uX10_isSet := fun _ h => (List.mem_cons_of_mem _ (List.mem_append_right _ (List.mem_append_right _ (List.mem_append_right _ h))))
theorem guX10_isSet : GU uX10_isSet := gu_cons (gu_app (by decide +kernel) (gu_ap guX10_isRoll (gu_ap guX10_in gws_X10)))
theorem gX10_isSet__X10_isRoll_V355 : GoodIn uX10_isSet (wsV RX10 355 RX10 yX10_isRoll uX10_isRoll) := gin_V (List.mem_of_getElem? (i := 1) rfl) (List.mem_of_getElem? (i := 2) rfl) (List.mem_of_getElem? (i := 3) rfl) (List.mem_of_getElem? (i := 4) rfl) (fun _ h => (List.mem_cons_of_mem _ (List.mem_append_right _ (List.mem_append_left _ h)))) guX10_isRoll
theorem gX10_isSet__X10_in_S82 : GoodIn uX10_isSet (va_wsS RX10 82 yX10_in uX10_in) := gin_S (List.mem_of_getElem? (i := 6) rfl) (List.mem_of_getElem? (i := 7) rfl) (List.mem_of_getElem? (i := 4) rfl) (fun _ h => (List.mem_cons_of_mem _ (List.mem_append_right _ (List.mem_append_right _ (List.mem_append_left _ h))))) guX10_in
set_option maxHeartbeats 4000000 in
set_option maxRecDepth 100000 in
theorem kX10_isSet (l : Launch) (dC : Nat → ClassId) (dI : Nat → Nat → Nat) (o0 : Nat) (x_th : Int32) (mwo : Nat) (mim : Nat) (mhi : Nat) (mlu : Nat) (mtp : Nat) (x_td : Int32) (mfv : Nat) (x_sz : Int32) (x_at : Int32) (x_fr : Int32) (x_to : Int32) (x_va : Int32) (x_fk : Int32) (x_fp : Int32) (mfr : Nat) (mwt : Nat) (x_wt : Int32) (x_op : Int32) (x_jo : Int32) (mfg : Nat) (mpl : Nat) (x_dr : Int64) (mtm : Nat) (mfa : Nat) (mqu : Nat) (mmo : Nat) (mwy : Nat) (mwn : Nat) (mma : Nat) (mwi : Nat) (mnu : Nat) (mmv : Nat) (c_wo : ClassId) (w_wo : Nat → Int32) (ln : Int32) (bs : Int32) (tk : Int32) (lw : Int32) (li : Int32) (a1 : Int32) (b_ln : (0 : Int) ≤ ln.toInt ∧ ln.toInt ≤ 12) (b_bs : (0 : Int) ≤ bs.toInt ∧ bs.toInt ≤ 16) (b_tk : (0 : Int) ≤ tk.toInt ∧ tk.toInt ≤ 20000) (b_lw : (0 : Int) ≤ lw.toInt ∧ lw.toInt ≤ 9) (hw0 : w_wo 0 = ln) (hw1 : w_wo 1 = bs) (hw2 : w_wo 2 = tk) (hw3 : w_wo 3 = lw) (hw4 : w_wo 4 = li) (hwz : (ln.toInt = 0 ∧ bs.toInt = 0 ∧ tk.toInt = 0 ∧ lw.toInt = 0) ∨ (1 ≤ ln.toInt ∧ 2 ≤ bs.toInt ∧ 1 ≤ tk.toInt)) : Met l yX10_isSet uX10_isSet ({ frames := 1, cells := 0, slots := 0, locals := 25 }) (va_Pc [.ref o0, .int a1] (pw (dC, dI) vwCl [(o0, .inr (8, [.int x_th, .ref mwo, .ref mim, .ref mhi, .ref mlu, .ref mtp, .int x_td, .ref mfv, .int x_sz, .int x_at, .int x_fr, .int x_to, .int x_va, .int x_fk, .int x_fp, .ref mfr, .ref mwt, .int x_wt, .int x_op, .int x_jo, .ref mfg, .ref mpl, .long x_dr, .ref mtm, .ref mfa, .ref mqu, .ref mmo, .ref mwy, .ref mwn, .ref mma, .ref mwi, .ref mnu, .ref mmv])), (mwo, .inl (c_wo, 1875, .inl w_wo))] [(c_wo, .int)])) (vp_Si (fun r => ((0 : Int) ≤ r.toInt ∧ r.toInt ≤ 1))) 0 0 (fun _ => False) := by
  refine Met.ofW (cc := cX10_isSet) (maxL := 2) (ret := (some .boolean)) pn_X10 rfl ?_
  intro p e s m args below meth c s₁ B hml hv
  obtain ⟨rfl, hP, hK, hN⟩ := hv
  have hx := B.exec
  have hb := B.bytes
  have hr := B.returns
  have hts := atoms_spec (ws := uX10_isSet) B.pre
  have hown : s.vm.findClass RX10 = some m.cls := hown_of B.named rfl
  have hlocks := B.notSynchronized
  have hl := lv_entry ([.ref o0, .int a1]) (n := 2) (Nat.le_of_ble_eq_true rfl)
  rw [lg_entry_eq]
  generalize (lg_sl ([.ref o0, .int a1]) ++ List.replicate (2 - (lg_sl ([.ref o0, .int a1])).length) Slot.unset).toArray = ls at hl ⊢
  have hl : lv_has ls 2 [(0, .ref o0), (1, .int a1)] := hl
  refine lv_aload_n hx hb dX10_isSet_0 rfl (lv_at hl 0 rfl) ?_
  refine vp_callSi (W.runV (As := []) (rest := []) ⟨hx, hb, hml, hown, hts⟩ (kX10_isRoll l dC dI o0 x_th mwo mim mhi mlu mtp x_td mfv x_sz x_at x_fr x_to x_va x_fk x_fp mfr mwt x_wt x_op x_jo mfg mpl x_dr mtm mfa mqu mmo mwy mwn mma mwi mnu mmv c_wo w_wo ln bs tk lw li b_ln b_bs b_tk b_lw (hw0) (hw1) (hw2) (hw3) (hw4) (hwz)) (cwV 0 hts gX10_isSet__X10_isRoll_V355 rfl rfl rfl hd_yX10_isRoll ⟨lel 1 1 rfl, lel 20 25 rfl⟩) ⟨pw_fb, rcv_X10 hK hP (q0 := 0) rfl, (pw_use hP hK hN [0, 1] rfl [0] rfl)⟩ rfl rfl hl.1 rfl (lv_room (Nat.le_of_ble_eq_true rfl)) dX10_isSet_1 ⟨lel 0 0 rfl, lel 0 0 rfl⟩) (fun r_12 h_r_12 => ?_)
  obtain ⟨b_r_12, nz_r_12⟩ := h_r_12
  have b_r_12 : (0 : Int) ≤ r_12.toInt ∧ r_12.toInt ≤ 1 := b_r_12
  refine lv_if_eq (tgt := 31) hx hb dX10_isSet_4 (by decide) (fun c_13 => ?_) (fun c_13 => ?_)
  ·
    have n_c_13 : (r_12.toInt : Int) = 0 := c_eq rfl (by decide) c_13
    have b_r_12 : (0 : Int) ≤ r_12.toInt ∧ r_12.toInt ≤ 0 := r_eq1 b_r_12 (by decide : (0 : Int) ≤ (0 : Int32).toInt ∧ (0 : Int32).toInt ≤ 0) n_c_13 (by decide)
    refine lv_iconst (v := 0) hx hb dX10_isSet_31 (by decide) ?_
    exact W.zret (v := 0) hx hb hr rfl (fun t ht hW => ⟨0, rfl, (rg_w (by decide : (0 : Int) ≤ (0 : Int32).toInt ∧ (0 : Int32).toInt ≤ 0) (by decide) (by decide)), ht⟩) t_nil dX10_isSet_32
  ·
    have n_c_13 : (r_12.toInt : Int) ≠ 0 := c_ne rfl (by decide) c_13
    have b_r_12 : (1 : Int) ≤ r_12.toInt ∧ r_12.toInt ≤ 1 := r_ne1 b_r_12 (by decide : (0 : Int) ≤ (0 : Int32).toInt ∧ (0 : Int32).toInt ≤ 0) n_c_13 (by decide)
    obtain ⟨b_ln, g_14⟩ := nz_r_12 c_13
    refine lv_iload_n hx hb dX10_isSet_7 rfl (lv_at hl 1 rfl) ?_
    obtain ⟨z_15, e_z_15⟩ : ∃ y : Int64, y = a1.toInt64 := ⟨_, rfl⟩
    refine lv_i2l (v := z_15) hx hb dX10_isSet_8 e_z_15.symm ?_
    obtain ⟨q_z_15, b_z_15⟩ := ti_i2l e_z_15 (ti_rng a1)
    refine lv_lconst (v := 0) hx hb dX10_isSet_9 (by decide) ?_
    refine lv_iconst (v := 1) hx hb dX10_isSet_10 (by decide) ?_
    refine lv_aload_n hx hb dX10_isSet_11 rfl (lv_at hl 0 rfl) ?_
    refine va_get (D := (dC, dI)) (ci := 8) (v := .ref mwo) (C := RX10) (T := TX10) (N := 33) hx hb hts iX10_isSet_X10 hown hK hP 0 rfl rfl 1 (by decide) (hts (.fieldLink RX10 9 "LuckyTicketModel" "world" "[I") (List.mem_of_getElem? (i := 5) rfl)) (fun _ h9 => h9) rfl dX10_isSet_12 ?_
    refine lv_iconst (v := 3) hx hb dX10_isSet_15 (by decide) ?_
    refine va_iald hx hb hK hP 1 0 rfl rfl (vp_in_b (by decide : (3 : Int) ≤ (3 : Int32).toInt ∧ (3 : Int32).toInt ≤ 3) (by decide) (by decide)) dX10_isSet_16 ?_
    refine lv_topi (fun z_16 e_z_16 => ?_)
    obtain rfl : lw = z_16 := (e_z_16.trans hw3).symm
    refine lv_ishl hx hb dX10_isSet_17 ?_
    refine lv_topi (fun z_17 e_z_17 => ?_)
    refine lv_iconst (v := 1) hx hb dX10_isSet_18 (by decide) ?_
    refine lv_isub hx hb dX10_isSet_19 ?_
    refine lv_topi (fun z_18 e_z_18 => ?_)
    obtain ⟨z_19, e_z_19⟩ : ∃ y : Int64, y = z_18.toInt64 := ⟨_, rfl⟩
    refine lv_i2l (v := z_19) hx hb dX10_isSet_20 e_z_19.symm ?_
    obtain ⟨q_z_19, b_z_19⟩ := ti_i2l e_z_19 (ti_rng z_18)
    refine vp_callSi (W.runS (As := [.long z_15, .long 0, .long z_19]) (rest := []) ⟨hx, hb, hml, hown, hts⟩ (kX10_in l dC dI z_15 0 z_19 ) (va_cwS 3 hts gX10_isSet__X10_in_S82 rfl rfl rfl hd_yX10_in.2 ⟨lel 1 1 rfl, lel 25 25 rfl⟩) ⟨pn_fb, pn_use⟩ rfl rfl hl.1 rfl (lv_room (Nat.le_of_ble_eq_true rfl)) dX10_isSet_21 ⟨lel 0 0 rfl, lel 0 0 rfl⟩) (fun r_20 h_r_20 => ?_)
    obtain ⟨b_r_20, nz_r_20⟩ := h_r_20
    have b_r_20 : (0 : Int) ≤ r_20.toInt ∧ r_20.toInt ≤ 1 := b_r_20
    refine lv_if_eq (tgt := 31) hx hb dX10_isSet_24 (by decide) (fun c_21 => ?_) (fun c_21 => ?_)
    ·
      have n_c_21 : (r_20.toInt : Int) = 0 := c_eq rfl (by decide) c_21
      have b_r_20 : (0 : Int) ≤ r_20.toInt ∧ r_20.toInt ≤ 0 := r_eq1 b_r_20 (by decide : (0 : Int) ≤ (0 : Int32).toInt ∧ (0 : Int32).toInt ≤ 0) n_c_21 (by decide)
      refine lv_iconst (v := 0) hx hb dX10_isSet_31 (by decide) ?_
      exact W.zret (v := 0) hx hb hr rfl (fun t ht hW => ⟨0, rfl, (rg_w (by decide : (0 : Int) ≤ (0 : Int32).toInt ∧ (0 : Int32).toInt ≤ 0) (by decide) (by decide)), ht⟩) t_nil dX10_isSet_32
    ·
      have n_c_21 : (r_20.toInt : Int) ≠ 0 := c_ne rfl (by decide) c_21
      have b_r_20 : (1 : Int) ≤ r_20.toInt ∧ r_20.toInt ≤ 1 := r_ne1 b_r_20 (by decide : (0 : Int) ≤ (0 : Int32).toInt ∧ (0 : Int32).toInt ≤ 0) n_c_21 (by decide)
      have g_22 := nz_r_20 c_21
      have lt0_g_22 := (by decide : (0 : Int64).toInt = 0)
      have b_z_15 : (0 : Int) ≤ z_15.toInt ∧ z_15.toInt ≤ 2147483647 := by
        have q0 := b_z_15
        have q1 := (by decide : (0 : Int) ≤ (0 : Int64).toInt ∧ (0 : Int64).toInt ≤ 0)
        have q2 := b_z_19
        omega
      have b_a1 : (0 : Int) ≤ a1.toInt ∧ a1.toInt ≤ 2147483647 := by
        have q0 := b_z_15; have q1 := q_z_15; have q2 := (ti_rng a1); omega
      refine lv_iconst (v := 1) hx hb dX10_isSet_27 (by decide) ?_
      refine lv_goto (tgt := 32) hx hb dX10_isSet_28 (by decide) ?_
      exact W.zret (v := 1) hx hb hr rfl (fun t ht hW => ⟨1, rfl, (rg_w (by decide : (1 : Int) ≤ (1 : Int32).toInt ∧ (1 : Int32).toInt ≤ 1) (by decide) (by decide)), ht⟩) t_nil dX10_isSet_32
theorem dX10_both_0 : decode cX10_both 0 = .ok (.aload_n 0, 1) := by decide +kernel
theorem dX10_both_1 : decode cX10_both 1 = .ok (.iload_n 1, 1) := by decide +kernel
theorem dX10_both_2 : decode cX10_both 2 = .ok (.invokevirtual 358, 3) := by decide +kernel
theorem dX10_both_5 : decode cX10_both 5 = .ok (.ifCond .ne 6, 3) := by decide +kernel
theorem dX10_both_8 : decode cX10_both 8 = .ok (.bipush (-2), 2) := by decide +kernel
theorem dX10_both_10 : decode cX10_both 10 = .ok (.ireturn, 1) := by decide +kernel
theorem dX10_both_11 : decode cX10_both 11 = .ok (.iconst 0, 1) := by decide +kernel
theorem dX10_both_12 : decode cX10_both 12 = .ok (.istore_n 2, 1) := by decide +kernel
theorem dX10_both_13 : decode cX10_both 13 = .ok (.iconst 0, 1) := by decide +kernel
theorem dX10_both_14 : decode cX10_both 14 = .ok (.istore_n 3, 1) := by decide +kernel
theorem dX10_both_15 : decode cX10_both 15 = .ok (.iload_n 3, 1) := by decide +kernel
theorem dX10_both_16 : decode cX10_both 16 = .ok (.aload_n 0, 1) := by decide +kernel
theorem dX10_both_17 : decode cX10_both 17 = .ok (.getfield 9, 3) := by decide +kernel
theorem dX10_both_20 : decode cX10_both 20 = .ok (.iconst 2, 1) := by decide +kernel
theorem dX10_both_21 : decode cX10_both 21 = .ok (.iaload, 1) := by decide +kernel
theorem dX10_both_22 : decode cX10_both 22 = .ok (.if_icmp .ge 29, 3) := by decide +kernel
theorem dX10_both_25 : decode cX10_both 25 = .ok (.iload_n 2, 1) := by decide +kernel
theorem dX10_both_26 : decode cX10_both 26 = .ok (.aload_n 0, 1) := by decide +kernel
theorem dX10_both_27 : decode cX10_both 27 = .ok (.getfield 20, 3) := by decide +kernel
theorem dX10_both_30 : decode cX10_both 30 = .ok (.iload_n 3, 1) := by decide +kernel
theorem dX10_both_31 : decode cX10_both 31 = .ok (.iaload, 1) := by decide +kernel
theorem dX10_both_32 : decode cX10_both 32 = .ok (.iload_n 1, 1) := by decide +kernel
theorem dX10_both_33 : decode cX10_both 33 = .ok (.iand, 1) := by decide +kernel
theorem dX10_both_34 : decode cX10_both 34 = .ok (.iload_n 1, 1) := by decide +kernel
theorem dX10_both_35 : decode cX10_both 35 = .ok (.if_icmp .ne 7, 3) := by decide +kernel
theorem dX10_both_38 : decode cX10_both 38 = .ok (.iconst 1, 1) := by decide +kernel
theorem dX10_both_39 : decode cX10_both 39 = .ok (.goto 4, 3) := by decide +kernel
theorem dX10_both_42 : decode cX10_both 42 = .ok (.iconst 0, 1) := by decide +kernel
theorem dX10_both_43 : decode cX10_both 43 = .ok (.iadd, 1) := by decide +kernel
theorem dX10_both_44 : decode cX10_both 44 = .ok (.istore_n 2, 1) := by decide +kernel
theorem dX10_both_45 : decode cX10_both 45 = .ok (.iinc 3 1, 3) := by decide +kernel
theorem dX10_both_48 : decode cX10_both 48 = .ok (.goto (-33), 3) := by decide +kernel
theorem dX10_both_51 : decode cX10_both 51 = .ok (.iload_n 2, 1) := by decide +kernel
theorem dX10_both_52 : decode cX10_both 52 = .ok (.ireturn, 1) := by decide +kernel
theorem hd_yX10_both : yX10_both.cls = RX10 ∧ yX10_both.cls ≠ "java/lang/invoke/MethodHandle" ∧ yX10_both.cls ≠ "java/lang/invoke/VarHandle" ∧ (parseMethodDescriptor yX10_both.desc).map (fun d => d.parameters.length) = some 1 := by decide +kernel
def uX10_both : List Cond := List.cons (.code yX10_both cX10_both 4 (some .int)) (HAppend.hAppend ([.methodLink RX10 358 yX10_isSet, .instanceMethod yX10_isSet, .selects RX10 yX10_isSet yX10_isSet, .initialized RX10, .fieldLink RX10 9 "LuckyTicketModel" "world" "[I", .fieldLink RX10 20 "LuckyTicketModel" "luck" "[I"] : List Cond) (HAppend.hAppend uX10_isSet wsX100))
theorem iX10_both_X10 : ∀ w ∈ wsX100, w ∈ uX10_both := fun _ h => (List.mem_cons_of_mem _ (List.mem_append_right _ (List.mem_append_right _ h)))
theorem guX10_both : GU uX10_both := gu_cons (gu_app (by decide +kernel) (gu_ap guX10_isSet gws_X10))
theorem gX10_both__X10_isSet_V358 : GoodIn uX10_both (wsV RX10 358 RX10 yX10_isSet uX10_isSet) := gin_V (List.mem_of_getElem? (i := 1) rfl) (List.mem_of_getElem? (i := 2) rfl) (List.mem_of_getElem? (i := 3) rfl) (List.mem_of_getElem? (i := 4) rfl) (fun _ h => (List.mem_cons_of_mem _ (List.mem_append_right _ (List.mem_append_left _ h)))) guX10_isSet
set_option maxHeartbeats 4000000 in
set_option maxRecDepth 100000 in
theorem kX10_both (l : Launch) (dC : Nat → ClassId) (dI : Nat → Nat → Nat) (o0 : Nat) (x_th : Int32) (mwo : Nat) (mim : Nat) (mhi : Nat) (mlu : Nat) (mtp : Nat) (x_td : Int32) (mfv : Nat) (x_sz : Int32) (x_at : Int32) (x_fr : Int32) (x_to : Int32) (x_va : Int32) (x_fk : Int32) (x_fp : Int32) (mfr : Nat) (mwt : Nat) (x_wt : Int32) (x_op : Int32) (x_jo : Int32) (mfg : Nat) (mpl : Nat) (x_dr : Int64) (mtm : Nat) (mfa : Nat) (mqu : Nat) (mmo : Nat) (mwy : Nat) (mwn : Nat) (mma : Nat) (mwi : Nat) (mnu : Nat) (mmv : Nat) (c_wo : ClassId) (c_lu : ClassId) (w_wo : Nat → Int32) (w_lu : Nat → Int32) (ln : Int32) (bs : Int32) (tk : Int32) (lw : Int32) (li : Int32) (a1 : Int32) (b_ln : (0 : Int) ≤ ln.toInt ∧ ln.toInt ≤ 12) (b_bs : (0 : Int) ≤ bs.toInt ∧ bs.toInt ≤ 16) (b_tk : (0 : Int) ≤ tk.toInt ∧ tk.toInt ≤ 20000) (b_lw : (0 : Int) ≤ lw.toInt ∧ lw.toInt ≤ 9) (hw0 : w_wo 0 = ln) (hw1 : w_wo 1 = bs) (hw2 : w_wo 2 = tk) (hw3 : w_wo 3 = lw) (hw4 : w_wo 4 = li) (hwz : (ln.toInt = 0 ∧ bs.toInt = 0 ∧ tk.toInt = 0 ∧ lw.toInt = 0) ∨ (1 ≤ ln.toInt ∧ 2 ≤ bs.toInt ∧ 1 ≤ tk.toInt)) : Met l yX10_both uX10_both ({ frames := 2, cells := 0, slots := 0, locals := 46 }) (va_Pc [.ref o0, .int a1] (pw (dC, dI) vwCl [(o0, .inr (8, [.int x_th, .ref mwo, .ref mim, .ref mhi, .ref mlu, .ref mtp, .int x_td, .ref mfv, .int x_sz, .int x_at, .int x_fr, .int x_to, .int x_va, .int x_fk, .int x_fp, .ref mfr, .ref mwt, .int x_wt, .int x_op, .int x_jo, .ref mfg, .ref mpl, .long x_dr, .ref mtm, .ref mfa, .ref mqu, .ref mmo, .ref mwy, .ref mwn, .ref mma, .ref mwi, .ref mnu, .ref mmv])), (mwo, .inl (c_wo, 1875, .inl w_wo)), (mlu, .inl (c_lu, 20000, .inl w_lu))] [(c_wo, .int), (c_lu, .int)])) (vp_Si (fun r => True)) 0 0 (fun _ => False) := by
  refine Met.ofW (cc := cX10_both) (maxL := 4) (ret := (some .int)) pn_X10 rfl ?_
  intro p e s m args below meth c s₁ B hml hv
  obtain ⟨rfl, hP, hK, hN⟩ := hv
  have hx := B.exec
  have hb := B.bytes
  have hr := B.returns
  have hts := atoms_spec (ws := uX10_both) B.pre
  have hown : s.vm.findClass RX10 = some m.cls := hown_of B.named rfl
  have hlocks := B.notSynchronized
  have hl := lv_entry ([.ref o0, .int a1]) (n := 4) (Nat.le_of_ble_eq_true rfl)
  rw [lg_entry_eq]
  generalize (lg_sl ([.ref o0, .int a1]) ++ List.replicate (4 - (lg_sl ([.ref o0, .int a1])).length) Slot.unset).toArray = ls at hl ⊢
  have hl : lv_has ls 4 [(0, .ref o0), (1, .int a1)] := hl
  refine lv_aload_n hx hb dX10_both_0 rfl (lv_at hl 0 rfl) ?_
  refine lv_iload_n hx hb dX10_both_1 rfl (lv_at hl 1 rfl) ?_
  refine vp_callSi (W.runV (As := [.int a1]) (rest := []) ⟨hx, hb, hml, hown, hts⟩ (kX10_isSet l dC dI o0 x_th mwo mim mhi mlu mtp x_td mfv x_sz x_at x_fr x_to x_va x_fk x_fp mfr mwt x_wt x_op x_jo mfg mpl x_dr mtm mfa mqu mmo mwy mwn mma mwi mnu mmv c_wo w_wo ln bs tk lw li a1 b_ln b_bs b_tk b_lw (hw0) (hw1) (hw2) (hw3) (hw4) (hwz)) (cwV 1 hts gX10_both__X10_isSet_V358 rfl rfl rfl hd_yX10_isSet ⟨lel 2 2 rfl, lel 46 46 rfl⟩) ⟨pw_fb, rcv_X10 hK hP (q0 := 0) rfl, (pw_use hP hK hN [0, 1] rfl [0] rfl)⟩ rfl rfl hl.1 rfl (lv_room (Nat.le_of_ble_eq_true rfl)) dX10_both_2 ⟨lel 0 0 rfl, lel 0 0 rfl⟩) (fun r_141 h_r_141 => ?_)
  have b_r_141 := h_r_141
  have b_r_141 : (0 : Int) ≤ r_141.toInt ∧ r_141.toInt ≤ 1 := b_r_141
  refine lv_if_ne (tgt := 11) hx hb dX10_both_5 (by decide) (fun c_142 => ?_) (fun c_142 => ?_)
  ·
    have n_c_142 : (r_141.toInt : Int) ≠ 0 := c_ne rfl (by decide) c_142
    have b_r_141 : (1 : Int) ≤ r_141.toInt ∧ r_141.toInt ≤ 1 := r_ne1 b_r_141 (by decide : (0 : Int) ≤ (0 : Int32).toInt ∧ (0 : Int32).toInt ≤ 0) n_c_142 (by decide)
    refine lv_iconst (v := 0) hx hb dX10_both_11 (by decide) ?_
    refine lv_istore_n (lv' := [(2, .int 0), (0, .ref o0), (1, .int a1)]) hx hb dX10_both_12 rfl hl (by decide) rfl (fun ls hl => ?_)
    refine lv_iconst (v := 0) hx hb dX10_both_13 (by decide) ?_
    refine lv_istore_n (lv' := [(3, .int 0), (2, .int 0), (0, .ref o0), (1, .int a1)]) hx hb dX10_both_14 rfl hl (by decide) rfl (fun ls hl => ?_)
    refine loopP (σ := Int32 × Int32) (fun v => (20000 - v.1.toInt).toNat) (fun v ls => ((0 : Int) ≤ v.1.toInt ∧ v.1.toInt ≤ 20000) ∧ lv_has ls 4 [(3, .int v.1), (2, .int v.2), (0, .ref o0), (1, .int a1)]) (fun v ls hI ih_15_272 => ?_) ((0 : Int32), (0 : Int32)) ⟨(show (0 : Int) ≤ (0 : Int32).toInt ∧ (0 : Int32).toInt ≤ 20000 from (rg_w (by decide : (0 : Int) ≤ (0 : Int32).toInt ∧ (0 : Int32).toInt ≤ 0) (by decide) (by decide))), lv_sub hl [0, 1, 2, 3] rfl⟩
    obtain ⟨y_151, y_152⟩ := v
    obtain ⟨b_y_151, hl⟩ := hI
    have b_y_151 : (0 : Int) ≤ y_151.toInt ∧ y_151.toInt ≤ 20000 := b_y_151
    have hl : lv_has ls 4 [(3, .int y_151), (2, .int y_152), (0, .ref o0), (1, .int a1)] := hl
    refine lv_iload_n hx hb dX10_both_15 rfl (lv_at hl 0 rfl) ?_
    refine lv_aload_n hx hb dX10_both_16 rfl (lv_at hl 2 rfl) ?_
    refine va_get (D := (dC, dI)) (ci := 8) (v := .ref mwo) (C := RX10) (T := TX10) (N := 33) hx hb hts iX10_both_X10 hown hK hP 0 rfl rfl 1 (by decide) (hts (.fieldLink RX10 9 "LuckyTicketModel" "world" "[I") (List.mem_of_getElem? (i := 5) rfl)) (fun _ h9 => h9) rfl dX10_both_17 ?_
    refine lv_iconst (v := 2) hx hb dX10_both_20 (by decide) ?_
    refine va_iald hx hb hK hP 1 0 rfl rfl (vp_in_b (by decide : (2 : Int) ≤ (2 : Int32).toInt ∧ (2 : Int32).toInt ≤ 2) (by decide) (by decide)) dX10_both_21 ?_
    refine lv_topi (fun z_273 e_z_273 => ?_)
    obtain rfl : tk = z_273 := (e_z_273.trans hw2).symm
    refine lv_icmp_ge (tgt := 51) hx hb dX10_both_22 (by decide) (fun c_274 => ?_) (fun c_274 => ?_)
    ·
      have n_c_274 : (tk.toInt : Int) ≤ y_151.toInt := c_ge rfl rfl c_274
      refine lv_iload_n hx hb dX10_both_51 rfl (lv_at hl 1 rfl) ?_
      exact W.iret (v := y_152) hx hb hr (fun t ht hW => ⟨y_152, rfl, trivial, ht⟩) t_nil dX10_both_52
    ·
      have n_c_274 : (y_151.toInt : Int) < tk.toInt := c_nge rfl rfl c_274
      have b_y_151 : (0 : Int) ≤ y_151.toInt ∧ y_151.toInt ≤ 19999 := r_lt1 b_y_151 b_tk n_c_274 (by decide)
      have b_tk : (1 : Int) ≤ tk.toInt ∧ tk.toInt ≤ 20000 := r_lt2 b_y_151 b_tk n_c_274 (by decide)
      refine lv_iload_n hx hb dX10_both_25 rfl (lv_at hl 1 rfl) ?_
      refine lv_aload_n hx hb dX10_both_26 rfl (lv_at hl 2 rfl) ?_
      refine va_get (D := (dC, dI)) (ci := 8) (v := .ref mlu) (C := RX10) (T := TX10) (N := 33) hx hb hts iX10_both_X10 hown hK hP 0 rfl rfl 4 (by decide) (hts (.fieldLink RX10 20 "LuckyTicketModel" "luck" "[I") (List.mem_of_getElem? (i := 6) rfl)) (fun _ h9 => h9) rfl dX10_both_27 ?_
      refine lv_iload_n hx hb dX10_both_30 rfl (lv_at hl 0 rfl) ?_
      refine va_iald hx hb hK hP 2 1 rfl rfl (vp_in_b b_y_151 (by decide) (by decide)) dX10_both_31 ?_
      refine lv_topi (fun z_275 e_z_275 => ?_)
      refine lv_iload_n hx hb dX10_both_32 rfl (lv_at hl 3 rfl) ?_
      refine lv_iand hx hb dX10_both_33 ?_
      refine lv_topi (fun z_276 e_z_276 => ?_)
      refine lv_iload_n hx hb dX10_both_34 rfl (lv_at hl 3 rfl) ?_
      refine cutP (σ := Int32) (pc2 := 43) (st2 := fun v => [.int v, .int y_152]) (cells2 := 0) (slots2 := 0) (fun v ls => ((0 : Int) ≤ v.toInt ∧ v.toInt ≤ 1) ∧ lv_has ls 4 [(3, .int y_151), (2, .int y_152), (0, .ref o0), (1, .int a1)]) (fun v ls hI => ?_) (fun hj_43_278 => ?_)
      ·
        obtain ⟨y_278, rfl⟩ : ∃ z, z = v := ⟨_, rfl⟩
        obtain ⟨b_y_278, hl⟩ := hI
        have b_y_278 : (0 : Int) ≤ y_278.toInt ∧ y_278.toInt ≤ 1 := b_y_278
        have hl : lv_has ls 4 [(3, .int y_151), (2, .int y_152), (0, .ref o0), (1, .int a1)] := hl
        refine lv_iadd hx hb dX10_both_43 ?_
        refine lv_topi (fun z_279 e_z_279 => ?_)
        refine lv_istore_n (lv' := [(2, .int z_279), (3, .int y_151), (0, .ref o0), (1, .int a1)]) hx hb dX10_both_44 rfl hl (by decide) rfl (fun ls hl => ?_)
        obtain ⟨z_280, e_z_280⟩ : ∃ y : Int32, y = y_151 + 1 := ⟨_, rfl⟩
        refine lv_iinc (v := z_280) (lv' := [(3, .int z_280), (2, .int z_279), (0, .ref o0), (1, .int a1)]) hx hb dX10_both_45 hl (k := 1) rfl (by rw [e_z_280]; rfl) (by decide) rfl (fun ls hl => ?_)
        obtain ⟨q_z_280, b_z_280⟩ := ti_add (lo := 1) (hi := 20000) e_z_280 rfl (by decide : (1 : Int32).toInt = 1) b_y_151 (by decide : (1 : Int) ≤ (1 : Int32).toInt ∧ (1 : Int32).toInt ≤ 1) (by decide)
        refine lv_goto (tgt := 15) hx hb dX10_both_48 (by decide) ?_
        exact ih_15_272 (z_280, z_279) _ ⟨(show (0 : Int) ≤ z_280.toInt ∧ z_280.toInt ≤ 20000 from (rg_w b_z_280 (by decide) (by decide))), lv_sub hl [0, 1, 2, 3] rfl⟩ (show (20000 - z_280.toInt).toNat < (20000 - y_151.toInt).toNat by omega)
      ·
        refine lv_icmp_ne (tgt := 42) hx hb dX10_both_35 (by decide) (fun c_277 => ?_) (fun c_277 => ?_)
        ·
          have n_c_277 : (z_276.toInt : Int) ≠ a1.toInt := c_ne rfl rfl c_277
          refine lv_iconst (v := 0) hx hb dX10_both_42 (by decide) ?_
          exact hj_43_278 (0 : Int32) _ ⟨(show (0 : Int) ≤ (0 : Int32).toInt ∧ (0 : Int32).toInt ≤ 1 from (rg_w (by decide : (0 : Int) ≤ (0 : Int32).toInt ∧ (0 : Int32).toInt ≤ 0) (by decide) (by decide))), lv_sub hl [0, 1, 2, 3] rfl⟩
        ·
          have n_c_277 : (z_276.toInt : Int) = a1.toInt := c_eq rfl rfl c_277
          refine lv_iconst (v := 1) hx hb dX10_both_38 (by decide) ?_
          refine lv_goto (tgt := 43) hx hb dX10_both_39 (by decide) ?_
          exact hj_43_278 (1 : Int32) _ ⟨(show (0 : Int) ≤ (1 : Int32).toInt ∧ (1 : Int32).toInt ≤ 1 from (rg_w (by decide : (1 : Int) ≤ (1 : Int32).toInt ∧ (1 : Int32).toInt ≤ 1) (by decide) (by decide))), lv_sub hl [0, 1, 2, 3] rfl⟩
  ·
    have n_c_142 : (r_141.toInt : Int) = 0 := c_eq rfl (by decide) c_142
    have b_r_141 : (0 : Int) ≤ r_141.toInt ∧ r_141.toInt ≤ 0 := r_eq1 b_r_141 (by decide : (0 : Int) ≤ (0 : Int32).toInt ∧ (0 : Int32).toInt ≤ 0) n_c_142 (by decide)
    refine lv_bipush (v := (-2)) hx hb dX10_both_8 (by decide) ?_
    exact W.iret (v := (-2)) hx hb hr (fun t ht hW => ⟨(-2), rfl, trivial, ht⟩) t_nil dX10_both_10
theorem dX10_just_0 : decode cX10_just 0 = .ok (.aload_n 0, 1) := by decide +kernel
theorem dX10_just_1 : decode cX10_just 1 = .ok (.iload_n 1, 1) := by decide +kernel
theorem dX10_just_2 : decode cX10_just 2 = .ok (.invokevirtual 358, 3) := by decide +kernel
theorem dX10_just_5 : decode cX10_just 5 = .ok (.ifCond .ne 6, 3) := by decide +kernel
theorem dX10_just_8 : decode cX10_just 8 = .ok (.bipush (-2), 2) := by decide +kernel
theorem dX10_just_10 : decode cX10_just 10 = .ok (.ireturn, 1) := by decide +kernel
theorem dX10_just_11 : decode cX10_just 11 = .ok (.iconst 0, 1) := by decide +kernel
theorem dX10_just_12 : decode cX10_just 12 = .ok (.istore_n 2, 1) := by decide +kernel
theorem dX10_just_13 : decode cX10_just 13 = .ok (.iconst 0, 1) := by decide +kernel
theorem dX10_just_14 : decode cX10_just 14 = .ok (.istore_n 3, 1) := by decide +kernel
theorem dX10_just_15 : decode cX10_just 15 = .ok (.iload_n 3, 1) := by decide +kernel
theorem dX10_just_16 : decode cX10_just 16 = .ok (.aload_n 0, 1) := by decide +kernel
theorem dX10_just_17 : decode cX10_just 17 = .ok (.getfield 9, 3) := by decide +kernel
theorem dX10_just_20 : decode cX10_just 20 = .ok (.iconst 2, 1) := by decide +kernel
theorem dX10_just_21 : decode cX10_just 21 = .ok (.iaload, 1) := by decide +kernel
theorem dX10_just_22 : decode cX10_just 22 = .ok (.if_icmp .ge 27, 3) := by decide +kernel
theorem dX10_just_25 : decode cX10_just 25 = .ok (.iload_n 2, 1) := by decide +kernel
theorem dX10_just_26 : decode cX10_just 26 = .ok (.aload_n 0, 1) := by decide +kernel
theorem dX10_just_27 : decode cX10_just 27 = .ok (.getfield 20, 3) := by decide +kernel
theorem dX10_just_30 : decode cX10_just 30 = .ok (.iload_n 3, 1) := by decide +kernel
theorem dX10_just_31 : decode cX10_just 31 = .ok (.iaload, 1) := by decide +kernel
theorem dX10_just_32 : decode cX10_just 32 = .ok (.iload_n 1, 1) := by decide +kernel
theorem dX10_just_33 : decode cX10_just 33 = .ok (.if_icmp .ne 7, 3) := by decide +kernel
theorem dX10_just_36 : decode cX10_just 36 = .ok (.iconst 1, 1) := by decide +kernel
theorem dX10_just_37 : decode cX10_just 37 = .ok (.goto 4, 3) := by decide +kernel
theorem dX10_just_40 : decode cX10_just 40 = .ok (.iconst 0, 1) := by decide +kernel
theorem dX10_just_41 : decode cX10_just 41 = .ok (.iadd, 1) := by decide +kernel
theorem dX10_just_42 : decode cX10_just 42 = .ok (.istore_n 2, 1) := by decide +kernel
theorem dX10_just_43 : decode cX10_just 43 = .ok (.iinc 3 1, 3) := by decide +kernel
theorem dX10_just_46 : decode cX10_just 46 = .ok (.goto (-31), 3) := by decide +kernel
theorem dX10_just_49 : decode cX10_just 49 = .ok (.iload_n 2, 1) := by decide +kernel
theorem dX10_just_50 : decode cX10_just 50 = .ok (.ireturn, 1) := by decide +kernel
theorem hd_yX10_just : yX10_just.cls = RX10 ∧ yX10_just.cls ≠ "java/lang/invoke/MethodHandle" ∧ yX10_just.cls ≠ "java/lang/invoke/VarHandle" ∧ (parseMethodDescriptor yX10_just.desc).map (fun d => d.parameters.length) = some 1 := by decide +kernel
def uX10_just : List Cond := List.cons (.code yX10_just cX10_just 4 (some .int)) (HAppend.hAppend ([.methodLink RX10 358 yX10_isSet, .instanceMethod yX10_isSet, .selects RX10 yX10_isSet yX10_isSet, .initialized RX10, .fieldLink RX10 9 "LuckyTicketModel" "world" "[I", .fieldLink RX10 20 "LuckyTicketModel" "luck" "[I"] : List Cond) (HAppend.hAppend uX10_isSet wsX100))
theorem iX10_just_X10 : ∀ w ∈ wsX100, w ∈ uX10_just := fun _ h => (List.mem_cons_of_mem _ (List.mem_append_right _ (List.mem_append_right _ h)))
theorem guX10_just : GU uX10_just := gu_cons (gu_app (by decide +kernel) (gu_ap guX10_isSet gws_X10))
theorem gX10_just__X10_isSet_V358 : GoodIn uX10_just (wsV RX10 358 RX10 yX10_isSet uX10_isSet) := gin_V (List.mem_of_getElem? (i := 1) rfl) (List.mem_of_getElem? (i := 2) rfl) (List.mem_of_getElem? (i := 3) rfl) (List.mem_of_getElem? (i := 4) rfl) (fun _ h => (List.mem_cons_of_mem _ (List.mem_append_right _ (List.mem_append_left _ h)))) guX10_isSet
set_option maxHeartbeats 4000000 in
set_option maxRecDepth 100000 in
theorem kX10_just (l : Launch) (dC : Nat → ClassId) (dI : Nat → Nat → Nat) (o0 : Nat) (x_th : Int32) (mwo : Nat) (mim : Nat) (mhi : Nat) (mlu : Nat) (mtp : Nat) (x_td : Int32) (mfv : Nat) (x_sz : Int32) (x_at : Int32) (x_fr : Int32) (x_to : Int32) (x_va : Int32) (x_fk : Int32) (x_fp : Int32) (mfr : Nat) (mwt : Nat) (x_wt : Int32) (x_op : Int32) (x_jo : Int32) (mfg : Nat) (mpl : Nat) (x_dr : Int64) (mtm : Nat) (mfa : Nat) (mqu : Nat) (mmo : Nat) (mwy : Nat) (mwn : Nat) (mma : Nat) (mwi : Nat) (mnu : Nat) (mmv : Nat) (c_wo : ClassId) (c_lu : ClassId) (w_wo : Nat → Int32) (w_lu : Nat → Int32) (ln : Int32) (bs : Int32) (tk : Int32) (lw : Int32) (li : Int32) (a1 : Int32) (b_ln : (0 : Int) ≤ ln.toInt ∧ ln.toInt ≤ 12) (b_bs : (0 : Int) ≤ bs.toInt ∧ bs.toInt ≤ 16) (b_tk : (0 : Int) ≤ tk.toInt ∧ tk.toInt ≤ 20000) (b_lw : (0 : Int) ≤ lw.toInt ∧ lw.toInt ≤ 9) (hw0 : w_wo 0 = ln) (hw1 : w_wo 1 = bs) (hw2 : w_wo 2 = tk) (hw3 : w_wo 3 = lw) (hw4 : w_wo 4 = li) (hwz : (ln.toInt = 0 ∧ bs.toInt = 0 ∧ tk.toInt = 0 ∧ lw.toInt = 0) ∨ (1 ≤ ln.toInt ∧ 2 ≤ bs.toInt ∧ 1 ≤ tk.toInt)) : Met l yX10_just uX10_just ({ frames := 2, cells := 0, slots := 0, locals := 46 }) (va_Pc [.ref o0, .int a1] (pw (dC, dI) vwCl [(o0, .inr (8, [.int x_th, .ref mwo, .ref mim, .ref mhi, .ref mlu, .ref mtp, .int x_td, .ref mfv, .int x_sz, .int x_at, .int x_fr, .int x_to, .int x_va, .int x_fk, .int x_fp, .ref mfr, .ref mwt, .int x_wt, .int x_op, .int x_jo, .ref mfg, .ref mpl, .long x_dr, .ref mtm, .ref mfa, .ref mqu, .ref mmo, .ref mwy, .ref mwn, .ref mma, .ref mwi, .ref mnu, .ref mmv])), (mwo, .inl (c_wo, 1875, .inl w_wo)), (mlu, .inl (c_lu, 20000, .inl w_lu))] [(c_wo, .int), (c_lu, .int)])) (vp_Si (fun r => True)) 0 0 (fun _ => False) := by
  refine Met.ofW (cc := cX10_just) (maxL := 4) (ret := (some .int)) pn_X10 rfl ?_
  intro p e s m args below meth c s₁ B hml hv
  obtain ⟨rfl, hP, hK, hN⟩ := hv
  have hx := B.exec
  have hb := B.bytes
  have hr := B.returns
  have hts := atoms_spec (ws := uX10_just) B.pre
  have hown : s.vm.findClass RX10 = some m.cls := hown_of B.named rfl
  have hlocks := B.notSynchronized
  have hl := lv_entry ([.ref o0, .int a1]) (n := 4) (Nat.le_of_ble_eq_true rfl)
  rw [lg_entry_eq]
  generalize (lg_sl ([.ref o0, .int a1]) ++ List.replicate (4 - (lg_sl ([.ref o0, .int a1])).length) Slot.unset).toArray = ls at hl ⊢
  have hl : lv_has ls 4 [(0, .ref o0), (1, .int a1)] := hl
  refine lv_aload_n hx hb dX10_just_0 rfl (lv_at hl 0 rfl) ?_
  refine lv_iload_n hx hb dX10_just_1 rfl (lv_at hl 1 rfl) ?_
  refine vp_callSi (W.runV (As := [.int a1]) (rest := []) ⟨hx, hb, hml, hown, hts⟩ (kX10_isSet l dC dI o0 x_th mwo mim mhi mlu mtp x_td mfv x_sz x_at x_fr x_to x_va x_fk x_fp mfr mwt x_wt x_op x_jo mfg mpl x_dr mtm mfa mqu mmo mwy mwn mma mwi mnu mmv c_wo w_wo ln bs tk lw li a1 b_ln b_bs b_tk b_lw (hw0) (hw1) (hw2) (hw3) (hw4) (hwz)) (cwV 1 hts gX10_just__X10_isSet_V358 rfl rfl rfl hd_yX10_isSet ⟨lel 2 2 rfl, lel 46 46 rfl⟩) ⟨pw_fb, rcv_X10 hK hP (q0 := 0) rfl, (pw_use hP hK hN [0, 1] rfl [0] rfl)⟩ rfl rfl hl.1 rfl (lv_room (Nat.le_of_ble_eq_true rfl)) dX10_just_2 ⟨lel 0 0 rfl, lel 0 0 rfl⟩) (fun r_124 h_r_124 => ?_)
  have b_r_124 := h_r_124
  have b_r_124 : (0 : Int) ≤ r_124.toInt ∧ r_124.toInt ≤ 1 := b_r_124
  refine lv_if_ne (tgt := 11) hx hb dX10_just_5 (by decide) (fun c_125 => ?_) (fun c_125 => ?_)
  ·
    have n_c_125 : (r_124.toInt : Int) ≠ 0 := c_ne rfl (by decide) c_125
    have b_r_124 : (1 : Int) ≤ r_124.toInt ∧ r_124.toInt ≤ 1 := r_ne1 b_r_124 (by decide : (0 : Int) ≤ (0 : Int32).toInt ∧ (0 : Int32).toInt ≤ 0) n_c_125 (by decide)
    refine lv_iconst (v := 0) hx hb dX10_just_11 (by decide) ?_
    refine lv_istore_n (lv' := [(2, .int 0), (0, .ref o0), (1, .int a1)]) hx hb dX10_just_12 rfl hl (by decide) rfl (fun ls hl => ?_)
    refine lv_iconst (v := 0) hx hb dX10_just_13 (by decide) ?_
    refine lv_istore_n (lv' := [(3, .int 0), (2, .int 0), (0, .ref o0), (1, .int a1)]) hx hb dX10_just_14 rfl hl (by decide) rfl (fun ls hl => ?_)
    refine loopP (σ := Int32 × Int32) (fun v => (20000 - v.1.toInt).toNat) (fun v ls => ((0 : Int) ≤ v.1.toInt ∧ v.1.toInt ≤ 20000) ∧ lv_has ls 4 [(3, .int v.1), (2, .int v.2), (0, .ref o0), (1, .int a1)]) (fun v ls hI ih_15_239 => ?_) ((0 : Int32), (0 : Int32)) ⟨(show (0 : Int) ≤ (0 : Int32).toInt ∧ (0 : Int32).toInt ≤ 20000 from (rg_w (by decide : (0 : Int) ≤ (0 : Int32).toInt ∧ (0 : Int32).toInt ≤ 0) (by decide) (by decide))), lv_sub hl [0, 1, 2, 3] rfl⟩
    obtain ⟨y_133, y_134⟩ := v
    obtain ⟨b_y_133, hl⟩ := hI
    have b_y_133 : (0 : Int) ≤ y_133.toInt ∧ y_133.toInt ≤ 20000 := b_y_133
    have hl : lv_has ls 4 [(3, .int y_133), (2, .int y_134), (0, .ref o0), (1, .int a1)] := hl
    refine lv_iload_n hx hb dX10_just_15 rfl (lv_at hl 0 rfl) ?_
    refine lv_aload_n hx hb dX10_just_16 rfl (lv_at hl 2 rfl) ?_
    refine va_get (D := (dC, dI)) (ci := 8) (v := .ref mwo) (C := RX10) (T := TX10) (N := 33) hx hb hts iX10_just_X10 hown hK hP 0 rfl rfl 1 (by decide) (hts (.fieldLink RX10 9 "LuckyTicketModel" "world" "[I") (List.mem_of_getElem? (i := 5) rfl)) (fun _ h9 => h9) rfl dX10_just_17 ?_
    refine lv_iconst (v := 2) hx hb dX10_just_20 (by decide) ?_
    refine va_iald hx hb hK hP 1 0 rfl rfl (vp_in_b (by decide : (2 : Int) ≤ (2 : Int32).toInt ∧ (2 : Int32).toInt ≤ 2) (by decide) (by decide)) dX10_just_21 ?_
    refine lv_topi (fun z_240 e_z_240 => ?_)
    obtain rfl : tk = z_240 := (e_z_240.trans hw2).symm
    refine lv_icmp_ge (tgt := 49) hx hb dX10_just_22 (by decide) (fun c_241 => ?_) (fun c_241 => ?_)
    ·
      have n_c_241 : (tk.toInt : Int) ≤ y_133.toInt := c_ge rfl rfl c_241
      refine lv_iload_n hx hb dX10_just_49 rfl (lv_at hl 1 rfl) ?_
      exact W.iret (v := y_134) hx hb hr (fun t ht hW => ⟨y_134, rfl, trivial, ht⟩) t_nil dX10_just_50
    ·
      have n_c_241 : (y_133.toInt : Int) < tk.toInt := c_nge rfl rfl c_241
      have b_y_133 : (0 : Int) ≤ y_133.toInt ∧ y_133.toInt ≤ 19999 := r_lt1 b_y_133 b_tk n_c_241 (by decide)
      have b_tk : (1 : Int) ≤ tk.toInt ∧ tk.toInt ≤ 20000 := r_lt2 b_y_133 b_tk n_c_241 (by decide)
      refine lv_iload_n hx hb dX10_just_25 rfl (lv_at hl 1 rfl) ?_
      refine lv_aload_n hx hb dX10_just_26 rfl (lv_at hl 2 rfl) ?_
      refine va_get (D := (dC, dI)) (ci := 8) (v := .ref mlu) (C := RX10) (T := TX10) (N := 33) hx hb hts iX10_just_X10 hown hK hP 0 rfl rfl 4 (by decide) (hts (.fieldLink RX10 20 "LuckyTicketModel" "luck" "[I") (List.mem_of_getElem? (i := 6) rfl)) (fun _ h9 => h9) rfl dX10_just_27 ?_
      refine lv_iload_n hx hb dX10_just_30 rfl (lv_at hl 0 rfl) ?_
      refine va_iald hx hb hK hP 2 1 rfl rfl (vp_in_b b_y_133 (by decide) (by decide)) dX10_just_31 ?_
      refine lv_topi (fun z_242 e_z_242 => ?_)
      refine lv_iload_n hx hb dX10_just_32 rfl (lv_at hl 3 rfl) ?_
      refine cutP (σ := Int32) (pc2 := 41) (st2 := fun v => [.int v, .int y_134]) (cells2 := 0) (slots2 := 0) (fun v ls => ((0 : Int) ≤ v.toInt ∧ v.toInt ≤ 1) ∧ lv_has ls 4 [(3, .int y_133), (2, .int y_134), (0, .ref o0), (1, .int a1)]) (fun v ls hI => ?_) (fun hj_41_244 => ?_)
      ·
        obtain ⟨y_244, rfl⟩ : ∃ z, z = v := ⟨_, rfl⟩
        obtain ⟨b_y_244, hl⟩ := hI
        have b_y_244 : (0 : Int) ≤ y_244.toInt ∧ y_244.toInt ≤ 1 := b_y_244
        have hl : lv_has ls 4 [(3, .int y_133), (2, .int y_134), (0, .ref o0), (1, .int a1)] := hl
        refine lv_iadd hx hb dX10_just_41 ?_
        refine lv_topi (fun z_245 e_z_245 => ?_)
        refine lv_istore_n (lv' := [(2, .int z_245), (3, .int y_133), (0, .ref o0), (1, .int a1)]) hx hb dX10_just_42 rfl hl (by decide) rfl (fun ls hl => ?_)
        obtain ⟨z_246, e_z_246⟩ : ∃ y : Int32, y = y_133 + 1 := ⟨_, rfl⟩
        refine lv_iinc (v := z_246) (lv' := [(3, .int z_246), (2, .int z_245), (0, .ref o0), (1, .int a1)]) hx hb dX10_just_43 hl (k := 1) rfl (by rw [e_z_246]; rfl) (by decide) rfl (fun ls hl => ?_)
        obtain ⟨q_z_246, b_z_246⟩ := ti_add (lo := 1) (hi := 20000) e_z_246 rfl (by decide : (1 : Int32).toInt = 1) b_y_133 (by decide : (1 : Int) ≤ (1 : Int32).toInt ∧ (1 : Int32).toInt ≤ 1) (by decide)
        refine lv_goto (tgt := 15) hx hb dX10_just_46 (by decide) ?_
        exact ih_15_239 (z_246, z_245) _ ⟨(show (0 : Int) ≤ z_246.toInt ∧ z_246.toInt ≤ 20000 from (rg_w b_z_246 (by decide) (by decide))), lv_sub hl [0, 1, 2, 3] rfl⟩ (show (20000 - z_246.toInt).toNat < (20000 - y_133.toInt).toNat by omega)
      ·
        refine lv_icmp_ne (tgt := 40) hx hb dX10_just_33 (by decide) (fun c_243 => ?_) (fun c_243 => ?_)
        ·
          have n_c_243 : (z_242.toInt : Int) ≠ a1.toInt := c_ne rfl rfl c_243
          refine lv_iconst (v := 0) hx hb dX10_just_40 (by decide) ?_
          exact hj_41_244 (0 : Int32) _ ⟨(show (0 : Int) ≤ (0 : Int32).toInt ∧ (0 : Int32).toInt ≤ 1 from (rg_w (by decide : (0 : Int) ≤ (0 : Int32).toInt ∧ (0 : Int32).toInt ≤ 0) (by decide) (by decide))), lv_sub hl [0, 1, 2, 3] rfl⟩
        ·
          have n_c_243 : (z_242.toInt : Int) = a1.toInt := c_eq rfl rfl c_243
          refine lv_iconst (v := 1) hx hb dX10_just_36 (by decide) ?_
          refine lv_goto (tgt := 41) hx hb dX10_just_37 (by decide) ?_
          exact hj_41_244 (1 : Int32) _ ⟨(show (0 : Int) ≤ (1 : Int32).toInt ∧ (1 : Int32).toInt ≤ 1 from (rg_w (by decide : (1 : Int) ≤ (1 : Int32).toInt ∧ (1 : Int32).toInt ≤ 1) (by decide) (by decide))), lv_sub hl [0, 1, 2, 3] rfl⟩
  ·
    have n_c_125 : (r_124.toInt : Int) = 0 := c_eq rfl (by decide) c_125
    have b_r_124 : (0 : Int) ≤ r_124.toInt ∧ r_124.toInt ≤ 0 := r_eq1 b_r_124 (by decide : (0 : Int) ≤ (0 : Int32).toInt ∧ (0 : Int32).toInt ≤ 0) n_c_125 (by decide)
    refine lv_bipush (v := (-2)) hx hb dX10_just_8 (by decide) ?_
    exact W.iret (v := (-2)) hx hb hr (fun t ht hW => ⟨(-2), rfl, trivial, ht⟩) t_nil dX10_just_10
theorem dX10_so_0 : decode cX10_so 0 = .ok (.aload_n 0, 1) := by decide +kernel
theorem dX10_so_1 : decode cX10_so 1 = .ok (.invokevirtual 355, 3) := by decide +kernel
theorem dX10_so_4 : decode cX10_so 4 = .ok (.ifCond .eq 15, 3) := by decide +kernel
theorem dX10_so_7 : decode cX10_so 7 = .ok (.iload_n 1, 1) := by decide +kernel
theorem dX10_so_8 : decode cX10_so 8 = .ok (.i2l, 1) := by decide +kernel
theorem dX10_so_9 : decode cX10_so 9 = .ok (.lconst 0, 1) := by decide +kernel
theorem dX10_so_10 : decode cX10_so 10 = .ok (.ldc2_w 361, 3) := by decide +kernel
theorem dX10_so_13 : decode cX10_so 13 = .ok (.invokestatic 82, 3) := by decide +kernel
theorem dX10_so_16 : decode cX10_so 16 = .ok (.ifCond .ne 6, 3) := by decide +kernel
theorem dX10_so_19 : decode cX10_so 19 = .ok (.bipush (-2), 2) := by decide +kernel
theorem dX10_so_21 : decode cX10_so 21 = .ok (.ireturn, 1) := by decide +kernel
theorem dX10_so_22 : decode cX10_so 22 = .ok (.iconst 0, 1) := by decide +kernel
theorem dX10_so_23 : decode cX10_so 23 = .ok (.istore_n 2, 1) := by decide +kernel
theorem dX10_so_24 : decode cX10_so 24 = .ok (.iconst 0, 1) := by decide +kernel
theorem dX10_so_25 : decode cX10_so 25 = .ok (.istore_n 3, 1) := by decide +kernel
theorem dX10_so_26 : decode cX10_so 26 = .ok (.iload_n 3, 1) := by decide +kernel
theorem dX10_so_27 : decode cX10_so 27 = .ok (.aload_n 0, 1) := by decide +kernel
theorem dX10_so_28 : decode cX10_so 28 = .ok (.getfield 9, 3) := by decide +kernel
theorem dX10_so_31 : decode cX10_so 31 = .ok (.iconst 2, 1) := by decide +kernel
theorem dX10_so_32 : decode cX10_so 32 = .ok (.iaload, 1) := by decide +kernel
theorem dX10_so_33 : decode cX10_so 33 = .ok (.if_icmp .ge 30, 3) := by decide +kernel
theorem dX10_so_36 : decode cX10_so 36 = .ok (.iload_n 2, 1) := by decide +kernel
theorem dX10_so_37 : decode cX10_so 37 = .ok (.aload_n 0, 1) := by decide +kernel
theorem dX10_so_38 : decode cX10_so 38 = .ok (.getfield 20, 3) := by decide +kernel
theorem dX10_so_41 : decode cX10_so 41 = .ok (.iload_n 3, 1) := by decide +kernel
theorem dX10_so_42 : decode cX10_so 42 = .ok (.iaload, 1) := by decide +kernel
theorem dX10_so_43 : decode cX10_so 43 = .ok (.invokestatic 363, 3) := by decide +kernel
theorem dX10_so_46 : decode cX10_so 46 = .ok (.iload_n 1, 1) := by decide +kernel
theorem dX10_so_47 : decode cX10_so 47 = .ok (.if_icmp .ne 7, 3) := by decide +kernel
theorem dX10_so_50 : decode cX10_so 50 = .ok (.iconst 1, 1) := by decide +kernel
theorem dX10_so_51 : decode cX10_so 51 = .ok (.goto 4, 3) := by decide +kernel
theorem dX10_so_54 : decode cX10_so 54 = .ok (.iconst 0, 1) := by decide +kernel
theorem dX10_so_55 : decode cX10_so 55 = .ok (.iadd, 1) := by decide +kernel
theorem dX10_so_56 : decode cX10_so 56 = .ok (.istore_n 2, 1) := by decide +kernel
theorem dX10_so_57 : decode cX10_so 57 = .ok (.iinc 3 1, 3) := by decide +kernel
theorem dX10_so_60 : decode cX10_so 60 = .ok (.goto (-34), 3) := by decide +kernel
theorem dX10_so_63 : decode cX10_so 63 = .ok (.iload_n 2, 1) := by decide +kernel
theorem dX10_so_64 : decode cX10_so 64 = .ok (.ireturn, 1) := by decide +kernel
theorem hd_yX10_so : yX10_so.cls = RX10 ∧ yX10_so.cls ≠ "java/lang/invoke/MethodHandle" ∧ yX10_so.cls ≠ "java/lang/invoke/VarHandle" ∧ (parseMethodDescriptor yX10_so.desc).map (fun d => d.parameters.length) = some 1 := by decide +kernel
def uX10_so : List Cond := List.cons (.code yX10_so cX10_so 4 (some .int)) (HAppend.hAppend ([.methodLink RX10 355 yX10_isRoll, .instanceMethod yX10_isRoll, .selects RX10 yX10_isRoll yX10_isRoll, .initialized RX10, .constantLong RX10 361 (9), .methodLink RX10 82 yX10_in, .static yX10_in, .fieldLink RX10 9 "LuckyTicketModel" "world" "[I", .fieldLink RX10 20 "LuckyTicketModel" "luck" "[I", .methodLink RX10 363 yX10_bits, .static yX10_bits] : List Cond) (HAppend.hAppend uX10_isRoll (HAppend.hAppend uX10_in (HAppend.hAppend uX10_bits wsX100))))
theorem iX10_so_X10 : ∀ w ∈ wsX100, w ∈ uX10_so := fun _ h => (List.mem_cons_of_mem _ (List.mem_append_right _ (List.mem_append_right _ (List.mem_append_right _ (List.mem_append_right _ h)))))
theorem guX10_so : GU uX10_so := gu_cons (gu_app (by decide +kernel) (gu_ap guX10_isRoll (gu_ap guX10_in (gu_ap guX10_bits gws_X10))))
theorem gX10_so__X10_isRoll_V355 : GoodIn uX10_so (wsV RX10 355 RX10 yX10_isRoll uX10_isRoll) := gin_V (List.mem_of_getElem? (i := 1) rfl) (List.mem_of_getElem? (i := 2) rfl) (List.mem_of_getElem? (i := 3) rfl) (List.mem_of_getElem? (i := 4) rfl) (fun _ h => (List.mem_cons_of_mem _ (List.mem_append_right _ (List.mem_append_left _ h)))) guX10_isRoll
theorem gX10_so__X10_in_S82 : GoodIn uX10_so (va_wsS RX10 82 yX10_in uX10_in) := gin_S (List.mem_of_getElem? (i := 6) rfl) (List.mem_of_getElem? (i := 7) rfl) (List.mem_of_getElem? (i := 4) rfl) (fun _ h => (List.mem_cons_of_mem _ (List.mem_append_right _ (List.mem_append_right _ (List.mem_append_left _ h))))) guX10_in
theorem gX10_so__X10_bits_S363 : GoodIn uX10_so (va_wsS RX10 363 yX10_bits uX10_bits) := gin_S (List.mem_of_getElem? (i := 10) rfl) (List.mem_of_getElem? (i := 11) rfl) (List.mem_of_getElem? (i := 4) rfl) (fun _ h => (List.mem_cons_of_mem _ (List.mem_append_right _ (List.mem_append_right _ (List.mem_append_right _ (List.mem_append_left _ h)))))) guX10_bits
set_option maxHeartbeats 4000000 in
set_option maxRecDepth 100000 in
theorem kX10_so (l : Launch) (dC : Nat → ClassId) (dI : Nat → Nat → Nat) (o0 : Nat) (x_th : Int32) (mwo : Nat) (mim : Nat) (mhi : Nat) (mlu : Nat) (mtp : Nat) (x_td : Int32) (mfv : Nat) (x_sz : Int32) (x_at : Int32) (x_fr : Int32) (x_to : Int32) (x_va : Int32) (x_fk : Int32) (x_fp : Int32) (mfr : Nat) (mwt : Nat) (x_wt : Int32) (x_op : Int32) (x_jo : Int32) (mfg : Nat) (mpl : Nat) (x_dr : Int64) (mtm : Nat) (mfa : Nat) (mqu : Nat) (mmo : Nat) (mwy : Nat) (mwn : Nat) (mma : Nat) (mwi : Nat) (mnu : Nat) (mmv : Nat) (c_wo : ClassId) (c_lu : ClassId) (w_wo : Nat → Int32) (w_lu : Nat → Int32) (ln : Int32) (bs : Int32) (tk : Int32) (lw : Int32) (li : Int32) (a1 : Int32) (b_ln : (0 : Int) ≤ ln.toInt ∧ ln.toInt ≤ 12) (b_bs : (0 : Int) ≤ bs.toInt ∧ bs.toInt ≤ 16) (b_tk : (0 : Int) ≤ tk.toInt ∧ tk.toInt ≤ 20000) (b_lw : (0 : Int) ≤ lw.toInt ∧ lw.toInt ≤ 9) (hw0 : w_wo 0 = ln) (hw1 : w_wo 1 = bs) (hw2 : w_wo 2 = tk) (hw3 : w_wo 3 = lw) (hw4 : w_wo 4 = li) (hwz : (ln.toInt = 0 ∧ bs.toInt = 0 ∧ tk.toInt = 0 ∧ lw.toInt = 0) ∨ (1 ≤ ln.toInt ∧ 2 ≤ bs.toInt ∧ 1 ≤ tk.toInt)) : Met l yX10_so uX10_so ({ frames := 1, cells := 0, slots := 0, locals := 25 }) (va_Pc [.ref o0, .int a1] (pw (dC, dI) vwCl [(o0, .inr (8, [.int x_th, .ref mwo, .ref mim, .ref mhi, .ref mlu, .ref mtp, .int x_td, .ref mfv, .int x_sz, .int x_at, .int x_fr, .int x_to, .int x_va, .int x_fk, .int x_fp, .ref mfr, .ref mwt, .int x_wt, .int x_op, .int x_jo, .ref mfg, .ref mpl, .long x_dr, .ref mtm, .ref mfa, .ref mqu, .ref mmo, .ref mwy, .ref mwn, .ref mma, .ref mwi, .ref mnu, .ref mmv])), (mwo, .inl (c_wo, 1875, .inl w_wo)), (mlu, .inl (c_lu, 20000, .inl w_lu))] [(c_wo, .int), (c_lu, .int)])) (vp_Si (fun r => True)) 0 0 (fun _ => False) := by
  refine Met.ofW (cc := cX10_so) (maxL := 4) (ret := (some .int)) pn_X10 rfl ?_
  intro p e s m args below meth c s₁ B hml hv
  obtain ⟨rfl, hP, hK, hN⟩ := hv
  have hx := B.exec
  have hb := B.bytes
  have hr := B.returns
  have hts := atoms_spec (ws := uX10_so) B.pre
  have hown : s.vm.findClass RX10 = some m.cls := hown_of B.named rfl
  have hlocks := B.notSynchronized
  have hl := lv_entry ([.ref o0, .int a1]) (n := 4) (Nat.le_of_ble_eq_true rfl)
  rw [lg_entry_eq]
  generalize (lg_sl ([.ref o0, .int a1]) ++ List.replicate (4 - (lg_sl ([.ref o0, .int a1])).length) Slot.unset).toArray = ls at hl ⊢
  have hl : lv_has ls 4 [(0, .ref o0), (1, .int a1)] := hl
  refine lv_aload_n hx hb dX10_so_0 rfl (lv_at hl 0 rfl) ?_
  refine vp_callSi (W.runV (As := []) (rest := []) ⟨hx, hb, hml, hown, hts⟩ (kX10_isRoll l dC dI o0 x_th mwo mim mhi mlu mtp x_td mfv x_sz x_at x_fr x_to x_va x_fk x_fp mfr mwt x_wt x_op x_jo mfg mpl x_dr mtm mfa mqu mmo mwy mwn mma mwi mnu mmv c_wo w_wo ln bs tk lw li b_ln b_bs b_tk b_lw (hw0) (hw1) (hw2) (hw3) (hw4) (hwz)) (cwV 0 hts gX10_so__X10_isRoll_V355 rfl rfl rfl hd_yX10_isRoll ⟨lel 1 1 rfl, lel 20 25 rfl⟩) ⟨pw_fb, rcv_X10 hK hP (q0 := 0) rfl, (pw_use hP hK hN [0, 1] rfl [0] rfl)⟩ rfl rfl hl.1 rfl (lv_room (Nat.le_of_ble_eq_true rfl)) dX10_so_1 ⟨lel 0 0 rfl, lel 0 0 rfl⟩) (fun r_146 h_r_146 => ?_)
  obtain ⟨b_r_146, nz_r_146⟩ := h_r_146
  have b_r_146 : (0 : Int) ≤ r_146.toInt ∧ r_146.toInt ≤ 1 := b_r_146
  refine lv_if_eq (tgt := 19) hx hb dX10_so_4 (by decide) (fun c_147 => ?_) (fun c_147 => ?_)
  ·
    have n_c_147 : (r_146.toInt : Int) = 0 := c_eq rfl (by decide) c_147
    have b_r_146 : (0 : Int) ≤ r_146.toInt ∧ r_146.toInt ≤ 0 := r_eq1 b_r_146 (by decide : (0 : Int) ≤ (0 : Int32).toInt ∧ (0 : Int32).toInt ≤ 0) n_c_147 (by decide)
    refine lv_bipush (v := (-2)) hx hb dX10_so_19 (by decide) ?_
    exact W.iret (v := (-2)) hx hb hr (fun t ht hW => ⟨(-2), rfl, trivial, ht⟩) t_nil dX10_so_21
  ·
    have n_c_147 : (r_146.toInt : Int) ≠ 0 := c_ne rfl (by decide) c_147
    have b_r_146 : (1 : Int) ≤ r_146.toInt ∧ r_146.toInt ≤ 1 := r_ne1 b_r_146 (by decide : (0 : Int) ≤ (0 : Int32).toInt ∧ (0 : Int32).toInt ≤ 0) n_c_147 (by decide)
    obtain ⟨b_ln, g_148⟩ := nz_r_146 c_147
    refine lv_iload_n hx hb dX10_so_7 rfl (lv_at hl 1 rfl) ?_
    obtain ⟨z_149, e_z_149⟩ : ∃ y : Int64, y = a1.toInt64 := ⟨_, rfl⟩
    refine lv_i2l (v := z_149) hx hb dX10_so_8 e_z_149.symm ?_
    obtain ⟨q_z_149, b_z_149⟩ := ti_i2l e_z_149 (ti_rng a1)
    refine lv_lconst (v := 0) hx hb dX10_so_9 (by decide) ?_
    refine lv_ldc2 (v := 9) hx hb hown (hts (.constantLong RX10 361 (9)) (List.mem_of_getElem? (i := 5) rfl)) dX10_so_10 ?_
    refine vp_callSi (W.runS (As := [.long z_149, .long 0, .long 9]) (rest := []) ⟨hx, hb, hml, hown, hts⟩ (kX10_in l dC dI z_149 0 9 ) (va_cwS 3 hts gX10_so__X10_in_S82 rfl rfl rfl hd_yX10_in.2 ⟨lel 1 1 rfl, lel 25 25 rfl⟩) ⟨pn_fb, pn_use⟩ rfl rfl hl.1 rfl (lv_room (Nat.le_of_ble_eq_true rfl)) dX10_so_13 ⟨lel 0 0 rfl, lel 0 0 rfl⟩) (fun r_150 h_r_150 => ?_)
    obtain ⟨b_r_150, nz_r_150⟩ := h_r_150
    have b_r_150 : (0 : Int) ≤ r_150.toInt ∧ r_150.toInt ≤ 1 := b_r_150
    refine lv_if_ne (tgt := 22) hx hb dX10_so_16 (by decide) (fun c_151 => ?_) (fun c_151 => ?_)
    ·
      have n_c_151 : (r_150.toInt : Int) ≠ 0 := c_ne rfl (by decide) c_151
      have b_r_150 : (1 : Int) ≤ r_150.toInt ∧ r_150.toInt ≤ 1 := r_ne1 b_r_150 (by decide : (0 : Int) ≤ (0 : Int32).toInt ∧ (0 : Int32).toInt ≤ 0) n_c_151 (by decide)
      have g_152 := nz_r_150 c_151
      have lt0_g_152 := (by decide : (0 : Int64).toInt = 0)
      have lt1_g_152 := (by decide : (9 : Int64).toInt = 9)
      have b_z_149 : (0 : Int) ≤ z_149.toInt ∧ z_149.toInt ≤ 9 := by
        have q0 := b_z_149
        have q1 := (by decide : (0 : Int) ≤ (0 : Int64).toInt ∧ (0 : Int64).toInt ≤ 0)
        have q2 := (by decide : (9 : Int) ≤ (9 : Int64).toInt ∧ (9 : Int64).toInt ≤ 9)
        omega
      have b_a1 : (0 : Int) ≤ a1.toInt ∧ a1.toInt ≤ 9 := by
        have q0 := b_z_149; have q1 := q_z_149; have q2 := (ti_rng a1); omega
      refine lv_iconst (v := 0) hx hb dX10_so_22 (by decide) ?_
      refine lv_istore_n (lv' := [(2, .int 0), (0, .ref o0), (1, .int a1)]) hx hb dX10_so_23 rfl hl (by decide) rfl (fun ls hl => ?_)
      refine lv_iconst (v := 0) hx hb dX10_so_24 (by decide) ?_
      refine lv_istore_n (lv' := [(3, .int 0), (2, .int 0), (0, .ref o0), (1, .int a1)]) hx hb dX10_so_25 rfl hl (by decide) rfl (fun ls hl => ?_)
      refine loopP (σ := Int32 × Int32) (fun v => (20000 - v.1.toInt).toNat) (fun v ls => ((0 : Int) ≤ v.1.toInt ∧ v.1.toInt ≤ 20000) ∧ lv_has ls 4 [(3, .int v.1), (2, .int v.2), (0, .ref o0), (1, .int a1)]) (fun v ls hI ih_26_282 => ?_) ((0 : Int32), (0 : Int32)) ⟨(show (0 : Int) ≤ (0 : Int32).toInt ∧ (0 : Int32).toInt ≤ 20000 from (rg_w (by decide : (0 : Int) ≤ (0 : Int32).toInt ∧ (0 : Int32).toInt ≤ 0) (by decide) (by decide))), lv_sub hl [0, 1, 2, 3] rfl⟩
      obtain ⟨y_161, y_162⟩ := v
      obtain ⟨b_y_161, hl⟩ := hI
      have b_y_161 : (0 : Int) ≤ y_161.toInt ∧ y_161.toInt ≤ 20000 := b_y_161
      have hl : lv_has ls 4 [(3, .int y_161), (2, .int y_162), (0, .ref o0), (1, .int a1)] := hl
      refine lv_iload_n hx hb dX10_so_26 rfl (lv_at hl 0 rfl) ?_
      refine lv_aload_n hx hb dX10_so_27 rfl (lv_at hl 2 rfl) ?_
      refine va_get (D := (dC, dI)) (ci := 8) (v := .ref mwo) (C := RX10) (T := TX10) (N := 33) hx hb hts iX10_so_X10 hown hK hP 0 rfl rfl 1 (by decide) (hts (.fieldLink RX10 9 "LuckyTicketModel" "world" "[I") (List.mem_of_getElem? (i := 8) rfl)) (fun _ h9 => h9) rfl dX10_so_28 ?_
      refine lv_iconst (v := 2) hx hb dX10_so_31 (by decide) ?_
      refine va_iald hx hb hK hP 1 0 rfl rfl (vp_in_b (by decide : (2 : Int) ≤ (2 : Int32).toInt ∧ (2 : Int32).toInt ≤ 2) (by decide) (by decide)) dX10_so_32 ?_
      refine lv_topi (fun z_283 e_z_283 => ?_)
      obtain rfl : tk = z_283 := (e_z_283.trans hw2).symm
      refine lv_icmp_ge (tgt := 63) hx hb dX10_so_33 (by decide) (fun c_284 => ?_) (fun c_284 => ?_)
      ·
        have n_c_284 : (tk.toInt : Int) ≤ y_161.toInt := c_ge rfl rfl c_284
        refine lv_iload_n hx hb dX10_so_63 rfl (lv_at hl 1 rfl) ?_
        exact W.iret (v := y_162) hx hb hr (fun t ht hW => ⟨y_162, rfl, trivial, ht⟩) t_nil dX10_so_64
      ·
        have n_c_284 : (y_161.toInt : Int) < tk.toInt := c_nge rfl rfl c_284
        have b_y_161 : (0 : Int) ≤ y_161.toInt ∧ y_161.toInt ≤ 19999 := r_lt1 b_y_161 b_tk n_c_284 (by decide)
        have b_tk : (1 : Int) ≤ tk.toInt ∧ tk.toInt ≤ 20000 := r_lt2 b_y_161 b_tk n_c_284 (by decide)
        refine lv_iload_n hx hb dX10_so_36 rfl (lv_at hl 1 rfl) ?_
        refine lv_aload_n hx hb dX10_so_37 rfl (lv_at hl 2 rfl) ?_
        refine va_get (D := (dC, dI)) (ci := 8) (v := .ref mlu) (C := RX10) (T := TX10) (N := 33) hx hb hts iX10_so_X10 hown hK hP 0 rfl rfl 4 (by decide) (hts (.fieldLink RX10 20 "LuckyTicketModel" "luck" "[I") (List.mem_of_getElem? (i := 9) rfl)) (fun _ h9 => h9) rfl dX10_so_38 ?_
        refine lv_iload_n hx hb dX10_so_41 rfl (lv_at hl 0 rfl) ?_
        refine va_iald hx hb hK hP 2 1 rfl rfl (vp_in_b b_y_161 (by decide) (by decide)) dX10_so_42 ?_
        refine lv_topi (fun z_285 e_z_285 => ?_)
        refine vp_callSi (W.runS (As := [.int z_285]) (rest := [.int y_162]) ⟨hx, hb, hml, hown, hts⟩ (kX10_bits l dC dI z_285 ) (va_cwS 1 hts gX10_so__X10_bits_S363 rfl rfl rfl hd_yX10_bits.2 ⟨lel 1 1 rfl, lel 22 25 rfl⟩) ⟨pn_fb, pn_use⟩ rfl rfl hl.1 rfl (lv_room (Nat.le_of_ble_eq_true rfl)) dX10_so_43 ⟨lel 0 0 rfl, lel 0 0 rfl⟩) (fun r_286 h_r_286 => ?_)
        refine lv_iload_n hx hb dX10_so_46 rfl (lv_at hl 3 rfl) ?_
        refine cutP (σ := Int32) (pc2 := 55) (st2 := fun v => [.int v, .int y_162]) (cells2 := 0) (slots2 := 0) (fun v ls => ((0 : Int) ≤ v.toInt ∧ v.toInt ≤ 1) ∧ lv_has ls 4 [(3, .int y_161), (2, .int y_162), (0, .ref o0), (1, .int a1)]) (fun v ls hI => ?_) (fun hj_55_288 => ?_)
        ·
          obtain ⟨y_288, rfl⟩ : ∃ z, z = v := ⟨_, rfl⟩
          obtain ⟨b_y_288, hl⟩ := hI
          have b_y_288 : (0 : Int) ≤ y_288.toInt ∧ y_288.toInt ≤ 1 := b_y_288
          have hl : lv_has ls 4 [(3, .int y_161), (2, .int y_162), (0, .ref o0), (1, .int a1)] := hl
          refine lv_iadd hx hb dX10_so_55 ?_
          refine lv_topi (fun z_289 e_z_289 => ?_)
          refine lv_istore_n (lv' := [(2, .int z_289), (3, .int y_161), (0, .ref o0), (1, .int a1)]) hx hb dX10_so_56 rfl hl (by decide) rfl (fun ls hl => ?_)
          obtain ⟨z_290, e_z_290⟩ : ∃ y : Int32, y = y_161 + 1 := ⟨_, rfl⟩
          refine lv_iinc (v := z_290) (lv' := [(3, .int z_290), (2, .int z_289), (0, .ref o0), (1, .int a1)]) hx hb dX10_so_57 hl (k := 1) rfl (by rw [e_z_290]; rfl) (by decide) rfl (fun ls hl => ?_)
          obtain ⟨q_z_290, b_z_290⟩ := ti_add (lo := 1) (hi := 20000) e_z_290 rfl (by decide : (1 : Int32).toInt = 1) b_y_161 (by decide : (1 : Int) ≤ (1 : Int32).toInt ∧ (1 : Int32).toInt ≤ 1) (by decide)
          refine lv_goto (tgt := 26) hx hb dX10_so_60 (by decide) ?_
          exact ih_26_282 (z_290, z_289) _ ⟨(show (0 : Int) ≤ z_290.toInt ∧ z_290.toInt ≤ 20000 from (rg_w b_z_290 (by decide) (by decide))), lv_sub hl [0, 1, 2, 3] rfl⟩ (show (20000 - z_290.toInt).toNat < (20000 - y_161.toInt).toNat by omega)
        ·
          refine lv_icmp_ne (tgt := 54) hx hb dX10_so_47 (by decide) (fun c_287 => ?_) (fun c_287 => ?_)
          ·
            have n_c_287 : (r_286.toInt : Int) ≠ a1.toInt := c_ne rfl rfl c_287
            refine lv_iconst (v := 0) hx hb dX10_so_54 (by decide) ?_
            exact hj_55_288 (0 : Int32) _ ⟨(show (0 : Int) ≤ (0 : Int32).toInt ∧ (0 : Int32).toInt ≤ 1 from (rg_w (by decide : (0 : Int) ≤ (0 : Int32).toInt ∧ (0 : Int32).toInt ≤ 0) (by decide) (by decide))), lv_sub hl [0, 1, 2, 3] rfl⟩
          ·
            have n_c_287 : (r_286.toInt : Int) = a1.toInt := c_eq rfl rfl c_287
            have b_r_286 : (0 : Int) ≤ r_286.toInt ∧ r_286.toInt ≤ 9 := r_eq1 (ti_rng r_286) b_a1 n_c_287 (by decide)
            refine lv_iconst (v := 1) hx hb dX10_so_50 (by decide) ?_
            refine lv_goto (tgt := 55) hx hb dX10_so_51 (by decide) ?_
            exact hj_55_288 (1 : Int32) _ ⟨(show (0 : Int) ≤ (1 : Int32).toInt ∧ (1 : Int32).toInt ≤ 1 from (rg_w (by decide : (1 : Int) ≤ (1 : Int32).toInt ∧ (1 : Int32).toInt ≤ 1) (by decide) (by decide))), lv_sub hl [0, 1, 2, 3] rfl⟩
    ·
      have n_c_151 : (r_150.toInt : Int) = 0 := c_eq rfl (by decide) c_151
      have b_r_150 : (0 : Int) ≤ r_150.toInt ∧ r_150.toInt ≤ 0 := r_eq1 b_r_150 (by decide : (0 : Int) ≤ (0 : Int32).toInt ∧ (0 : Int32).toInt ≤ 0) n_c_151 (by decide)
      refine lv_bipush (v := (-2)) hx hb dX10_so_19 (by decide) ?_
      exact W.iret (v := (-2)) hx hb hr (fun t ht hW => ⟨(-2), rfl, trivial, ht⟩) t_nil dX10_so_21
theorem dX10_differOf_0 : decode cX10_differOf 0 = .ok (.iconst 0, 1) := by decide +kernel
theorem dX10_differOf_1 : decode cX10_differOf 1 = .ok (.istore_n 3, 1) := by decide +kernel
theorem dX10_differOf_2 : decode cX10_differOf 2 = .ok (.iload_n 3, 1) := by decide +kernel
theorem dX10_differOf_3 : decode cX10_differOf 3 = .ok (.aload_n 0, 1) := by decide +kernel
theorem dX10_differOf_4 : decode cX10_differOf 4 = .ok (.getfield 9, 3) := by decide +kernel
theorem dX10_differOf_7 : decode cX10_differOf 7 = .ok (.iconst 2, 1) := by decide +kernel
theorem dX10_differOf_8 : decode cX10_differOf 8 = .ok (.iaload, 1) := by decide +kernel
theorem dX10_differOf_9 : decode cX10_differOf 9 = .ok (.if_icmp .ge 26, 3) := by decide +kernel
theorem dX10_differOf_12 : decode cX10_differOf 12 = .ok (.aload_n 0, 1) := by decide +kernel
theorem dX10_differOf_13 : decode cX10_differOf 13 = .ok (.iload_n 1, 1) := by decide +kernel
theorem dX10_differOf_14 : decode cX10_differOf 14 = .ok (.iload_n 3, 1) := by decide +kernel
theorem dX10_differOf_15 : decode cX10_differOf 15 = .ok (.invokevirtual 316, 3) := by decide +kernel
theorem dX10_differOf_18 : decode cX10_differOf 18 = .ok (.aload_n 0, 1) := by decide +kernel
theorem dX10_differOf_19 : decode cX10_differOf 19 = .ok (.iload_n 2, 1) := by decide +kernel
theorem dX10_differOf_20 : decode cX10_differOf 20 = .ok (.iload_n 3, 1) := by decide +kernel
theorem dX10_differOf_21 : decode cX10_differOf 21 = .ok (.invokevirtual 316, 3) := by decide +kernel
theorem dX10_differOf_24 : decode cX10_differOf 24 = .ok (.if_icmp .eq 5, 3) := by decide +kernel
theorem dX10_differOf_27 : decode cX10_differOf 27 = .ok (.iload_n 3, 1) := by decide +kernel
theorem dX10_differOf_28 : decode cX10_differOf 28 = .ok (.ireturn, 1) := by decide +kernel
theorem dX10_differOf_29 : decode cX10_differOf 29 = .ok (.iinc 3 1, 3) := by decide +kernel
theorem dX10_differOf_32 : decode cX10_differOf 32 = .ok (.goto (-30), 3) := by decide +kernel
theorem dX10_differOf_35 : decode cX10_differOf 35 = .ok (.iconst (-1), 1) := by decide +kernel
theorem dX10_differOf_36 : decode cX10_differOf 36 = .ok (.ireturn, 1) := by decide +kernel
theorem hd_yX10_differOf : yX10_differOf.cls = RX10 ∧ yX10_differOf.cls ≠ "java/lang/invoke/MethodHandle" ∧ yX10_differOf.cls ≠ "java/lang/invoke/VarHandle" ∧ (parseMethodDescriptor yX10_differOf.desc).map (fun d => d.parameters.length) = some 2 := by decide +kernel
def uX10_differOf : List Cond := List.cons (.code yX10_differOf cX10_differOf 4 (some .int)) (HAppend.hAppend ([.fieldLink RX10 9 "LuckyTicketModel" "world" "[I", .methodLink RX10 316 yX10_isLucky, .instanceMethod yX10_isLucky, .selects RX10 yX10_isLucky yX10_isLucky, .initialized RX10] : List Cond) (HAppend.hAppend uX10_isLucky wsX100))
theorem iX10_differOf_X10 : ∀ w ∈ wsX100, w ∈ uX10_differOf := fun _ h => (List.mem_cons_of_mem _ (List.mem_append_right _ (List.mem_append_right _ h)))
theorem guX10_differOf : GU uX10_differOf := gu_cons (gu_app (by decide +kernel) (gu_ap guX10_isLucky gws_X10))
theorem gX10_differOf__X10_isLucky_V316 : GoodIn uX10_differOf (wsV RX10 316 RX10 yX10_isLucky uX10_isLucky) := gin_V (List.mem_of_getElem? (i := 2) rfl) (List.mem_of_getElem? (i := 3) rfl) (List.mem_of_getElem? (i := 4) rfl) (List.mem_of_getElem? (i := 5) rfl) (fun _ h => (List.mem_cons_of_mem _ (List.mem_append_right _ (List.mem_append_left _ h)))) guX10_isLucky
set_option maxHeartbeats 4000000 in
set_option maxRecDepth 100000 in
theorem kX10_differOf (l : Launch) (dC : Nat → ClassId) (dI : Nat → Nat → Nat) (o0 : Nat) (x_th : Int32) (mwo : Nat) (mim : Nat) (mhi : Nat) (mlu : Nat) (mtp : Nat) (x_td : Int32) (mfv : Nat) (x_sz : Int32) (x_at : Int32) (x_fr : Int32) (x_to : Int32) (x_va : Int32) (x_fk : Int32) (x_fp : Int32) (mfr : Nat) (mwt : Nat) (x_wt : Int32) (x_op : Int32) (x_jo : Int32) (mfg : Nat) (mpl : Nat) (x_dr : Int64) (mtm : Nat) (mfa : Nat) (mqu : Nat) (mmo : Nat) (mwy : Nat) (mwn : Nat) (mma : Nat) (mwi : Nat) (mnu : Nat) (mmv : Nat) (c_wo : ClassId) (c_lu : ClassId) (w_wo : Nat → Int32) (w_lu : Nat → Int32) (ln : Int32) (bs : Int32) (tk : Int32) (lw : Int32) (li : Int32) (a1 : Int32) (a2 : Int32) (b_ln : (0 : Int) ≤ ln.toInt ∧ ln.toInt ≤ 12) (b_bs : (0 : Int) ≤ bs.toInt ∧ bs.toInt ≤ 16) (b_tk : (0 : Int) ≤ tk.toInt ∧ tk.toInt ≤ 20000) (b_lw : (0 : Int) ≤ lw.toInt ∧ lw.toInt ≤ 9) (hw0 : w_wo 0 = ln) (hw1 : w_wo 1 = bs) (hw2 : w_wo 2 = tk) (hw3 : w_wo 3 = lw) (hw4 : w_wo 4 = li) (hwz : (ln.toInt = 0 ∧ bs.toInt = 0 ∧ tk.toInt = 0 ∧ lw.toInt = 0) ∨ (1 ≤ ln.toInt ∧ 2 ≤ bs.toInt ∧ 1 ≤ tk.toInt)) : Met l yX10_differOf uX10_differOf ({ frames := 1, cells := 0, slots := 0, locals := 22 }) (va_Pc [.ref o0, .int a1, .int a2] (pw (dC, dI) vwCl [(o0, .inr (8, [.int x_th, .ref mwo, .ref mim, .ref mhi, .ref mlu, .ref mtp, .int x_td, .ref mfv, .int x_sz, .int x_at, .int x_fr, .int x_to, .int x_va, .int x_fk, .int x_fp, .ref mfr, .ref mwt, .int x_wt, .int x_op, .int x_jo, .ref mfg, .ref mpl, .long x_dr, .ref mtm, .ref mfa, .ref mqu, .ref mmo, .ref mwy, .ref mwn, .ref mma, .ref mwi, .ref mnu, .ref mmv])), (mwo, .inl (c_wo, 1875, .inl w_wo)), (mlu, .inl (c_lu, 20000, .inl w_lu))] [(c_wo, .int), (c_lu, .int)])) (vp_Si (fun r => ((-1 : Int) ≤ r.toInt ∧ r.toInt ≤ 19999))) 0 0 (fun _ => False) := by
  refine Met.ofW (cc := cX10_differOf) (maxL := 4) (ret := (some .int)) pn_X10 rfl ?_
  intro p e s m args below meth c s₁ B hml hv
  obtain ⟨rfl, hP, hK, hN⟩ := hv
  have hx := B.exec
  have hb := B.bytes
  have hr := B.returns
  have hts := atoms_spec (ws := uX10_differOf) B.pre
  have hown : s.vm.findClass RX10 = some m.cls := hown_of B.named rfl
  have hlocks := B.notSynchronized
  have hl := lv_entry ([.ref o0, .int a1, .int a2]) (n := 4) (Nat.le_of_ble_eq_true rfl)
  rw [lg_entry_eq]
  generalize (lg_sl ([.ref o0, .int a1, .int a2]) ++ List.replicate (4 - (lg_sl ([.ref o0, .int a1, .int a2])).length) Slot.unset).toArray = ls at hl ⊢
  have hl : lv_has ls 4 [(0, .ref o0), (1, .int a1), (2, .int a2)] := hl
  refine lv_iconst (v := 0) hx hb dX10_differOf_0 (by decide) ?_
  refine lv_istore_n (lv' := [(3, .int 0), (0, .ref o0), (1, .int a1), (2, .int a2)]) hx hb dX10_differOf_1 rfl hl (by decide) rfl (fun ls hl => ?_)
  refine loopP (σ := Int32) (fun v => (20000 - v.toInt).toNat) (fun v ls => ((0 : Int) ≤ v.toInt ∧ v.toInt ≤ 20000) ∧ lv_has ls 4 [(3, .int v), (0, .ref o0), (1, .int a1), (2, .int a2)]) (fun v ls hI ih_2_152 => ?_) (0 : Int32) ⟨(show (0 : Int) ≤ (0 : Int32).toInt ∧ (0 : Int32).toInt ≤ 20000 from (rg_w (by decide : (0 : Int) ≤ (0 : Int32).toInt ∧ (0 : Int32).toInt ≤ 0) (by decide) (by decide))), lv_sub hl [0, 1, 2, 3] rfl⟩
  obtain ⟨y_86, rfl⟩ : ∃ z, z = v := ⟨_, rfl⟩
  obtain ⟨b_y_86, hl⟩ := hI
  have b_y_86 : (0 : Int) ≤ y_86.toInt ∧ y_86.toInt ≤ 20000 := b_y_86
  have hl : lv_has ls 4 [(3, .int y_86), (0, .ref o0), (1, .int a1), (2, .int a2)] := hl
  refine lv_iload_n hx hb dX10_differOf_2 rfl (lv_at hl 0 rfl) ?_
  refine lv_aload_n hx hb dX10_differOf_3 rfl (lv_at hl 1 rfl) ?_
  refine va_get (D := (dC, dI)) (ci := 8) (v := .ref mwo) (C := RX10) (T := TX10) (N := 33) hx hb hts iX10_differOf_X10 hown hK hP 0 rfl rfl 1 (by decide) (hts (.fieldLink RX10 9 "LuckyTicketModel" "world" "[I") (List.mem_of_getElem? (i := 1) rfl)) (fun _ h9 => h9) rfl dX10_differOf_4 ?_
  refine lv_iconst (v := 2) hx hb dX10_differOf_7 (by decide) ?_
  refine va_iald hx hb hK hP 1 0 rfl rfl (vp_in_b (by decide : (2 : Int) ≤ (2 : Int32).toInt ∧ (2 : Int32).toInt ≤ 2) (by decide) (by decide)) dX10_differOf_8 ?_
  refine lv_topi (fun z_153 e_z_153 => ?_)
  obtain rfl : tk = z_153 := (e_z_153.trans hw2).symm
  refine lv_icmp_ge (tgt := 35) hx hb dX10_differOf_9 (by decide) (fun c_154 => ?_) (fun c_154 => ?_)
  ·
    have n_c_154 : (tk.toInt : Int) ≤ y_86.toInt := c_ge rfl rfl c_154
    refine lv_iconst (v := (-1)) hx hb dX10_differOf_35 (by decide) ?_
    exact W.iret (v := (-1)) hx hb hr (fun t ht hW => ⟨(-1), rfl, (rg_w (by decide : (-1 : Int) ≤ ((-1) : Int32).toInt ∧ ((-1) : Int32).toInt ≤ -1) (by decide) (by decide)), ht⟩) t_nil dX10_differOf_36
  ·
    have n_c_154 : (y_86.toInt : Int) < tk.toInt := c_nge rfl rfl c_154
    have b_y_86 : (0 : Int) ≤ y_86.toInt ∧ y_86.toInt ≤ 19999 := r_lt1 b_y_86 b_tk n_c_154 (by decide)
    have b_tk : (1 : Int) ≤ tk.toInt ∧ tk.toInt ≤ 20000 := r_lt2 b_y_86 b_tk n_c_154 (by decide)
    refine lv_aload_n hx hb dX10_differOf_12 rfl (lv_at hl 1 rfl) ?_
    refine lv_iload_n hx hb dX10_differOf_13 rfl (lv_at hl 2 rfl) ?_
    refine lv_iload_n hx hb dX10_differOf_14 rfl (lv_at hl 0 rfl) ?_
    refine vp_callSi (W.runV (As := [.int a1, .int y_86]) (rest := []) ⟨hx, hb, hml, hown, hts⟩ (kX10_isLucky l dC dI o0 x_th mwo mim mhi mlu mtp x_td mfv x_sz x_at x_fr x_to x_va x_fk x_fp mfr mwt x_wt x_op x_jo mfg mpl x_dr mtm mfa mqu mmo mwy mwn mma mwi mnu mmv c_wo c_lu w_wo w_lu ln bs tk lw li a1 y_86 b_ln b_bs (rg_w b_tk (by decide) (by decide)) b_lw b_y_86 (hw0) (hw1) (hw2) (hw3) (hw4) (hwz)) (cwV 2 hts gX10_differOf__X10_isLucky_V316 rfl rfl rfl hd_yX10_isLucky ⟨lel 1 1 rfl, lel 22 22 rfl⟩) ⟨pw_fb, rcv_X10 hK hP (q0 := 0) rfl, (pw_use hP hK hN [0, 1, 2] rfl [0, 1] rfl)⟩ rfl rfl hl.1 rfl (lv_room (Nat.le_of_ble_eq_true rfl)) dX10_differOf_15 ⟨lel 0 0 rfl, lel 0 0 rfl⟩) (fun r_155 h_r_155 => ?_)
    have b_r_155 := h_r_155
    have b_r_155 : (0 : Int) ≤ r_155.toInt ∧ r_155.toInt ≤ 1 := b_r_155
    refine lv_aload_n hx hb dX10_differOf_18 rfl (lv_at hl 1 rfl) ?_
    refine lv_iload_n hx hb dX10_differOf_19 rfl (lv_at hl 3 rfl) ?_
    refine lv_iload_n hx hb dX10_differOf_20 rfl (lv_at hl 0 rfl) ?_
    refine vp_callSi (W.runV (As := [.int a2, .int y_86]) (rest := [.int r_155]) ⟨hx, hb, hml, hown, hts⟩ (kX10_isLucky l dC dI o0 x_th mwo mim mhi mlu mtp x_td mfv x_sz x_at x_fr x_to x_va x_fk x_fp mfr mwt x_wt x_op x_jo mfg mpl x_dr mtm mfa mqu mmo mwy mwn mma mwi mnu mmv c_wo c_lu w_wo w_lu ln bs tk lw li a2 y_86 b_ln b_bs (rg_w b_tk (by decide) (by decide)) b_lw b_y_86 (hw0) (hw1) (hw2) (hw3) (hw4) (hwz)) (cwV 2 hts gX10_differOf__X10_isLucky_V316 rfl rfl rfl hd_yX10_isLucky ⟨lel 1 1 rfl, lel 22 22 rfl⟩) ⟨pw_fb, rcv_X10 hK hP (q0 := 0) rfl, (pw_use hP hK hN [0, 1, 2] rfl [0, 1] rfl)⟩ rfl rfl hl.1 rfl (lv_room (Nat.le_of_ble_eq_true rfl)) dX10_differOf_21 ⟨lel 0 0 rfl, lel 0 0 rfl⟩) (fun r_156 h_r_156 => ?_)
    have b_r_156 := h_r_156
    have b_r_156 : (0 : Int) ≤ r_156.toInt ∧ r_156.toInt ≤ 1 := b_r_156
    refine lv_icmp_eq (tgt := 29) hx hb dX10_differOf_24 (by decide) (fun c_157 => ?_) (fun c_157 => ?_)
    ·
      have n_c_157 : (r_155.toInt : Int) = r_156.toInt := c_eq rfl rfl c_157
      obtain ⟨z_158, e_z_158⟩ : ∃ y : Int32, y = y_86 + 1 := ⟨_, rfl⟩
      refine lv_iinc (v := z_158) (lv' := [(3, .int z_158), (0, .ref o0), (1, .int a1), (2, .int a2)]) hx hb dX10_differOf_29 hl (k := 0) rfl (by rw [e_z_158]; rfl) (by decide) rfl (fun ls hl => ?_)
      obtain ⟨q_z_158, b_z_158⟩ := ti_add (lo := 1) (hi := 20000) e_z_158 rfl (by decide : (1 : Int32).toInt = 1) b_y_86 (by decide : (1 : Int) ≤ (1 : Int32).toInt ∧ (1 : Int32).toInt ≤ 1) (by decide)
      refine lv_goto (tgt := 2) hx hb dX10_differOf_32 (by decide) ?_
      exact ih_2_152 z_158 _ ⟨(show (0 : Int) ≤ z_158.toInt ∧ z_158.toInt ≤ 20000 from (rg_w b_z_158 (by decide) (by decide))), lv_sub hl [0, 1, 2, 3] rfl⟩ (show (20000 - z_158.toInt).toNat < (20000 - y_86.toInt).toNat by omega)
    ·
      have n_c_157 : (r_155.toInt : Int) ≠ r_156.toInt := c_ne rfl rfl c_157
      refine lv_iload_n hx hb dX10_differOf_27 rfl (lv_at hl 0 rfl) ?_
      exact W.iret (v := y_86) hx hb hr (fun t ht hW => ⟨y_86, rfl, (rg_w b_y_86 (by decide) (by decide)), ht⟩) t_nil dX10_differOf_28
theorem dX10_alike_0 : decode cX10_alike 0 = .ok (.aload_n 0, 1) := by decide +kernel
theorem dX10_alike_1 : decode cX10_alike 1 = .ok (.iload_n 1, 1) := by decide +kernel
theorem dX10_alike_2 : decode cX10_alike 2 = .ok (.invokevirtual 89, 3) := by decide +kernel
theorem dX10_alike_5 : decode cX10_alike 5 = .ok (.ifCond .eq 29, 3) := by decide +kernel
theorem dX10_alike_8 : decode cX10_alike 8 = .ok (.aload_n 0, 1) := by decide +kernel
theorem dX10_alike_9 : decode cX10_alike 9 = .ok (.iload_n 2, 1) := by decide +kernel
theorem dX10_alike_10 : decode cX10_alike 10 = .ok (.invokevirtual 89, 3) := by decide +kernel
theorem dX10_alike_13 : decode cX10_alike 13 = .ok (.ifCond .eq 21, 3) := by decide +kernel
theorem dX10_alike_16 : decode cX10_alike 16 = .ok (.aload_n 0, 1) := by decide +kernel
theorem dX10_alike_17 : decode cX10_alike 17 = .ok (.iload_n 1, 1) := by decide +kernel
theorem dX10_alike_18 : decode cX10_alike 18 = .ok (.iload_n 2, 1) := by decide +kernel
theorem dX10_alike_19 : decode cX10_alike 19 = .ok (.invokevirtual 366, 3) := by decide +kernel
theorem dX10_alike_22 : decode cX10_alike 22 = .ok (.iconst (-1), 1) := by decide +kernel
theorem dX10_alike_23 : decode cX10_alike 23 = .ok (.if_icmp .ne 7, 3) := by decide +kernel
theorem dX10_alike_26 : decode cX10_alike 26 = .ok (.iconst 1, 1) := by decide +kernel
theorem dX10_alike_27 : decode cX10_alike 27 = .ok (.goto 9, 3) := by decide +kernel
theorem dX10_alike_30 : decode cX10_alike 30 = .ok (.iconst 0, 1) := by decide +kernel
theorem dX10_alike_31 : decode cX10_alike 31 = .ok (.goto 5, 3) := by decide +kernel
theorem dX10_alike_34 : decode cX10_alike 34 = .ok (.bipush (-2), 2) := by decide +kernel
theorem dX10_alike_36 : decode cX10_alike 36 = .ok (.ireturn, 1) := by decide +kernel
theorem hd_yX10_alike : yX10_alike.cls = RX10 ∧ yX10_alike.cls ≠ "java/lang/invoke/MethodHandle" ∧ yX10_alike.cls ≠ "java/lang/invoke/VarHandle" ∧ (parseMethodDescriptor yX10_alike.desc).map (fun d => d.parameters.length) = some 2 := by decide +kernel
def uX10_alike : List Cond := List.cons (.code yX10_alike cX10_alike 3 (some .int)) (HAppend.hAppend ([.methodLink RX10 89 yX10_isLaw, .instanceMethod yX10_isLaw, .selects RX10 yX10_isLaw yX10_isLaw, .initialized RX10, .methodLink RX10 366 yX10_differOf, .instanceMethod yX10_differOf, .selects RX10 yX10_differOf yX10_differOf] : List Cond) (HAppend.hAppend uX10_isLaw uX10_differOf))
theorem guX10_alike : GU uX10_alike := gu_cons (gu_app (by decide +kernel) (gu_ap guX10_isLaw guX10_differOf))
theorem gX10_alike__X10_isLaw_V89 : GoodIn uX10_alike (wsV RX10 89 RX10 yX10_isLaw uX10_isLaw) := gin_V (List.mem_of_getElem? (i := 1) rfl) (List.mem_of_getElem? (i := 2) rfl) (List.mem_of_getElem? (i := 3) rfl) (List.mem_of_getElem? (i := 4) rfl) (fun _ h => (List.mem_cons_of_mem _ (List.mem_append_right _ (List.mem_append_left _ h)))) guX10_isLaw
theorem gX10_alike__X10_differOf_V366 : GoodIn uX10_alike (wsV RX10 366 RX10 yX10_differOf uX10_differOf) := gin_V (List.mem_of_getElem? (i := 5) rfl) (List.mem_of_getElem? (i := 6) rfl) (List.mem_of_getElem? (i := 7) rfl) (List.mem_of_getElem? (i := 4) rfl) (fun _ h => (List.mem_cons_of_mem _ (List.mem_append_right _ (List.mem_append_right _ h)))) guX10_differOf
set_option maxHeartbeats 4000000 in
set_option maxRecDepth 100000 in
theorem kX10_alike (l : Launch) (dC : Nat → ClassId) (dI : Nat → Nat → Nat) (o0 : Nat) (x_th : Int32) (mwo : Nat) (mim : Nat) (mhi : Nat) (mlu : Nat) (mtp : Nat) (x_td : Int32) (mfv : Nat) (x_sz : Int32) (x_at : Int32) (x_fr : Int32) (x_to : Int32) (x_va : Int32) (x_fk : Int32) (x_fp : Int32) (mfr : Nat) (mwt : Nat) (x_wt : Int32) (x_op : Int32) (x_jo : Int32) (mfg : Nat) (mpl : Nat) (x_dr : Int64) (mtm : Nat) (mfa : Nat) (mqu : Nat) (mmo : Nat) (mwy : Nat) (mwn : Nat) (mma : Nat) (mwi : Nat) (mnu : Nat) (mmv : Nat) (c_wo : ClassId) (c_lu : ClassId) (w_wo : Nat → Int32) (w_lu : Nat → Int32) (ln : Int32) (bs : Int32) (tk : Int32) (lw : Int32) (li : Int32) (a1 : Int32) (a2 : Int32) (b_ln : (0 : Int) ≤ ln.toInt ∧ ln.toInt ≤ 12) (b_bs : (0 : Int) ≤ bs.toInt ∧ bs.toInt ≤ 16) (b_tk : (0 : Int) ≤ tk.toInt ∧ tk.toInt ≤ 20000) (b_lw : (0 : Int) ≤ lw.toInt ∧ lw.toInt ≤ 9) (hw0 : w_wo 0 = ln) (hw1 : w_wo 1 = bs) (hw2 : w_wo 2 = tk) (hw3 : w_wo 3 = lw) (hw4 : w_wo 4 = li) (hwz : (ln.toInt = 0 ∧ bs.toInt = 0 ∧ tk.toInt = 0 ∧ lw.toInt = 0) ∨ (1 ≤ ln.toInt ∧ 2 ≤ bs.toInt ∧ 1 ≤ tk.toInt)) : Met l yX10_alike uX10_alike ({ frames := 2, cells := 0, slots := 0, locals := 46 }) (va_Pc [.ref o0, .int a1, .int a2] (pw (dC, dI) vwCl [(o0, .inr (8, [.int x_th, .ref mwo, .ref mim, .ref mhi, .ref mlu, .ref mtp, .int x_td, .ref mfv, .int x_sz, .int x_at, .int x_fr, .int x_to, .int x_va, .int x_fk, .int x_fp, .ref mfr, .ref mwt, .int x_wt, .int x_op, .int x_jo, .ref mfg, .ref mpl, .long x_dr, .ref mtm, .ref mfa, .ref mqu, .ref mmo, .ref mwy, .ref mwn, .ref mma, .ref mwi, .ref mnu, .ref mmv])), (mwo, .inl (c_wo, 1875, .inl w_wo)), (mlu, .inl (c_lu, 20000, .inl w_lu))] [(c_wo, .int), (c_lu, .int)])) (vp_Si (fun r => ((-2 : Int) ≤ r.toInt ∧ r.toInt ≤ 1))) 0 0 (fun _ => False) := by
  refine Met.ofW (cc := cX10_alike) (maxL := 3) (ret := (some .int)) pn_X10 rfl ?_
  intro p e s m args below meth c s₁ B hml hv
  obtain ⟨rfl, hP, hK, hN⟩ := hv
  have hx := B.exec
  have hb := B.bytes
  have hr := B.returns
  have hts := atoms_spec (ws := uX10_alike) B.pre
  have hown : s.vm.findClass RX10 = some m.cls := hown_of B.named rfl
  have hlocks := B.notSynchronized
  have hl := lv_entry ([.ref o0, .int a1, .int a2]) (n := 3) (Nat.le_of_ble_eq_true rfl)
  rw [lg_entry_eq]
  generalize (lg_sl ([.ref o0, .int a1, .int a2]) ++ List.replicate (3 - (lg_sl ([.ref o0, .int a1, .int a2])).length) Slot.unset).toArray = ls at hl ⊢
  have hl : lv_has ls 3 [(0, .ref o0), (1, .int a1), (2, .int a2)] := hl
  refine lv_aload_n hx hb dX10_alike_0 rfl (lv_at hl 0 rfl) ?_
  refine lv_iload_n hx hb dX10_alike_1 rfl (lv_at hl 1 rfl) ?_
  refine vp_callSi (W.runV (As := [.int a1]) (rest := []) ⟨hx, hb, hml, hown, hts⟩ (kX10_isLaw l dC dI o0 x_th mwo mim mhi mlu mtp x_td mfv x_sz x_at x_fr x_to x_va x_fk x_fp mfr mwt x_wt x_op x_jo mfg mpl x_dr mtm mfa mqu mmo mwy mwn mma mwi mnu mmv c_wo w_wo ln bs tk lw li a1 b_ln b_bs b_tk b_lw (hw0) (hw1) (hw2) (hw3) (hw4) (hwz)) (cwV 1 hts gX10_alike__X10_isLaw_V89 rfl rfl rfl hd_yX10_isLaw ⟨lel 2 2 rfl, lel 46 46 rfl⟩) ⟨pw_fb, rcv_X10 hK hP (q0 := 0) rfl, (pw_use hP hK hN [0, 1] rfl [0] rfl)⟩ rfl rfl hl.1 rfl (lv_room (Nat.le_of_ble_eq_true rfl)) dX10_alike_2 ⟨lel 0 0 rfl, lel 0 0 rfl⟩) (fun r_9 h_r_9 => ?_)
  obtain ⟨b_r_9, nz_r_9⟩ := h_r_9
  have b_r_9 : (0 : Int) ≤ r_9.toInt ∧ r_9.toInt ≤ 1 := b_r_9
  refine lv_if_eq (tgt := 34) hx hb dX10_alike_5 (by decide) (fun c_10 => ?_) (fun c_10 => ?_)
  ·
    have n_c_10 : (r_9.toInt : Int) = 0 := c_eq rfl (by decide) c_10
    have b_r_9 : (0 : Int) ≤ r_9.toInt ∧ r_9.toInt ≤ 0 := r_eq1 b_r_9 (by decide : (0 : Int) ≤ (0 : Int32).toInt ∧ (0 : Int32).toInt ≤ 0) n_c_10 (by decide)
    refine lv_bipush (v := (-2)) hx hb dX10_alike_34 (by decide) ?_
    exact W.iret (v := (-2)) hx hb hr (fun t ht hW => ⟨(-2), rfl, (rg_w (by decide : (-2 : Int) ≤ ((-2) : Int32).toInt ∧ ((-2) : Int32).toInt ≤ -2) (by decide) (by decide)), ht⟩) t_nil dX10_alike_36
  ·
    have n_c_10 : (r_9.toInt : Int) ≠ 0 := c_ne rfl (by decide) c_10
    have b_r_9 : (1 : Int) ≤ r_9.toInt ∧ r_9.toInt ≤ 1 := r_ne1 b_r_9 (by decide : (0 : Int) ≤ (0 : Int32).toInt ∧ (0 : Int32).toInt ≤ 0) n_c_10 (by decide)
    obtain ⟨b_a1, g_11⟩ := nz_r_9 c_10
    refine lv_aload_n hx hb dX10_alike_8 rfl (lv_at hl 0 rfl) ?_
    refine lv_iload_n hx hb dX10_alike_9 rfl (lv_at hl 2 rfl) ?_
    refine vp_callSi (W.runV (As := [.int a2]) (rest := []) ⟨hx, hb, hml, hown, hts⟩ (kX10_isLaw l dC dI o0 x_th mwo mim mhi mlu mtp x_td mfv x_sz x_at x_fr x_to x_va x_fk x_fp mfr mwt x_wt x_op x_jo mfg mpl x_dr mtm mfa mqu mmo mwy mwn mma mwi mnu mmv c_wo w_wo ln bs tk lw li a2 b_ln b_bs b_tk b_lw (hw0) (hw1) (hw2) (hw3) (hw4) (hwz)) (cwV 1 hts gX10_alike__X10_isLaw_V89 rfl rfl rfl hd_yX10_isLaw ⟨lel 2 2 rfl, lel 46 46 rfl⟩) ⟨pw_fb, rcv_X10 hK hP (q0 := 0) rfl, (pw_use hP hK hN [0, 1] rfl [0] rfl)⟩ rfl rfl hl.1 rfl (lv_room (Nat.le_of_ble_eq_true rfl)) dX10_alike_10 ⟨lel 0 0 rfl, lel 0 0 rfl⟩) (fun r_12 h_r_12 => ?_)
    obtain ⟨b_r_12, nz_r_12⟩ := h_r_12
    have b_r_12 : (0 : Int) ≤ r_12.toInt ∧ r_12.toInt ≤ 1 := b_r_12
    refine lv_if_eq (tgt := 34) hx hb dX10_alike_13 (by decide) (fun c_13 => ?_) (fun c_13 => ?_)
    ·
      have n_c_13 : (r_12.toInt : Int) = 0 := c_eq rfl (by decide) c_13
      have b_r_12 : (0 : Int) ≤ r_12.toInt ∧ r_12.toInt ≤ 0 := r_eq1 b_r_12 (by decide : (0 : Int) ≤ (0 : Int32).toInt ∧ (0 : Int32).toInt ≤ 0) n_c_13 (by decide)
      refine lv_bipush (v := (-2)) hx hb dX10_alike_34 (by decide) ?_
      exact W.iret (v := (-2)) hx hb hr (fun t ht hW => ⟨(-2), rfl, (rg_w (by decide : (-2 : Int) ≤ ((-2) : Int32).toInt ∧ ((-2) : Int32).toInt ≤ -2) (by decide) (by decide)), ht⟩) t_nil dX10_alike_36
    ·
      have n_c_13 : (r_12.toInt : Int) ≠ 0 := c_ne rfl (by decide) c_13
      have b_r_12 : (1 : Int) ≤ r_12.toInt ∧ r_12.toInt ≤ 1 := r_ne1 b_r_12 (by decide : (0 : Int) ≤ (0 : Int32).toInt ∧ (0 : Int32).toInt ≤ 0) n_c_13 (by decide)
      obtain ⟨b_a2, g_14⟩ := nz_r_12 c_13
      refine lv_aload_n hx hb dX10_alike_16 rfl (lv_at hl 0 rfl) ?_
      refine lv_iload_n hx hb dX10_alike_17 rfl (lv_at hl 1 rfl) ?_
      refine lv_iload_n hx hb dX10_alike_18 rfl (lv_at hl 2 rfl) ?_
      refine vp_callSi (W.runV (As := [.int a1, .int a2]) (rest := []) ⟨hx, hb, hml, hown, hts⟩ (kX10_differOf l dC dI o0 x_th mwo mim mhi mlu mtp x_td mfv x_sz x_at x_fr x_to x_va x_fk x_fp mfr mwt x_wt x_op x_jo mfg mpl x_dr mtm mfa mqu mmo mwy mwn mma mwi mnu mmv c_wo c_lu w_wo w_lu ln bs tk lw li a1 a2 b_ln b_bs b_tk b_lw (hw0) (hw1) (hw2) (hw3) (hw4) (hwz)) (cwV 2 hts gX10_alike__X10_differOf_V366 rfl rfl rfl hd_yX10_differOf ⟨lel 2 2 rfl, lel 45 46 rfl⟩) ⟨pw_fb, rcv_X10 hK hP (q0 := 0) rfl, (pw_use hP hK hN [0, 1, 2] rfl [0, 1] rfl)⟩ rfl rfl hl.1 rfl (lv_room (Nat.le_of_ble_eq_true rfl)) dX10_alike_19 ⟨lel 0 0 rfl, lel 0 0 rfl⟩) (fun r_15 h_r_15 => ?_)
      have b_r_15 := h_r_15
      have b_r_15 : (-1 : Int) ≤ r_15.toInt ∧ r_15.toInt ≤ 19999 := b_r_15
      refine lv_iconst (v := (-1)) hx hb dX10_alike_22 (by decide) ?_
      refine lv_icmp_ne (tgt := 30) hx hb dX10_alike_23 (by decide) (fun c_16 => ?_) (fun c_16 => ?_)
      ·
        have n_c_16 : (r_15.toInt : Int) ≠ (-1) := c_ne rfl (by decide) c_16
        have b_r_15 : (0 : Int) ≤ r_15.toInt ∧ r_15.toInt ≤ 19999 := r_ne1 b_r_15 (by decide : (-1 : Int) ≤ ((-1) : Int32).toInt ∧ ((-1) : Int32).toInt ≤ -1) n_c_16 (by decide)
        refine lv_iconst (v := 0) hx hb dX10_alike_30 (by decide) ?_
        refine lv_goto (tgt := 36) hx hb dX10_alike_31 (by decide) ?_
        exact W.iret (v := 0) hx hb hr (fun t ht hW => ⟨0, rfl, (rg_w (by decide : (0 : Int) ≤ (0 : Int32).toInt ∧ (0 : Int32).toInt ≤ 0) (by decide) (by decide)), ht⟩) t_nil dX10_alike_36
      ·
        have n_c_16 : (r_15.toInt : Int) = (-1) := c_eq rfl (by decide) c_16
        have b_r_15 : (-1 : Int) ≤ r_15.toInt ∧ r_15.toInt ≤ -1 := r_eq1 b_r_15 (by decide : (-1 : Int) ≤ ((-1) : Int32).toInt ∧ ((-1) : Int32).toInt ≤ -1) n_c_16 (by decide)
        refine lv_iconst (v := 1) hx hb dX10_alike_26 (by decide) ?_
        refine lv_goto (tgt := 36) hx hb dX10_alike_27 (by decide) ?_
        exact W.iret (v := 1) hx hb hr (fun t ht hW => ⟨1, rfl, (rg_w (by decide : (1 : Int) ≤ (1 : Int32).toInt ∧ (1 : Int32).toInt ≤ 1) (by decide) (by decide)), ht⟩) t_nil dX10_alike_36
