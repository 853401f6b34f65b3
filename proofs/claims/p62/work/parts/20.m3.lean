theorem dX10_differ_0 : decode cX10_differ 0 = .ok (.aload_n 0, 1) := by decide +kernel
theorem dX10_differ_1 : decode cX10_differ 1 = .ok (.iload_n 1, 1) := by decide +kernel
theorem dX10_differ_2 : decode cX10_differ 2 = .ok (.invokevirtual 89, 3) := by decide +kernel
theorem dX10_differ_5 : decode cX10_differ 5 = .ok (.ifCond .eq 20, 3) := by decide +kernel
theorem dX10_differ_8 : decode cX10_differ 8 = .ok (.aload_n 0, 1) := by decide +kernel
theorem dX10_differ_9 : decode cX10_differ 9 = .ok (.iload_n 2, 1) := by decide +kernel
theorem dX10_differ_10 : decode cX10_differ 10 = .ok (.invokevirtual 89, 3) := by decide +kernel
theorem dX10_differ_13 : decode cX10_differ 13 = .ok (.ifCond .eq 12, 3) := by decide +kernel
theorem dX10_differ_16 : decode cX10_differ 16 = .ok (.aload_n 0, 1) := by decide +kernel
theorem dX10_differ_17 : decode cX10_differ 17 = .ok (.iload_n 1, 1) := by decide +kernel
theorem dX10_differ_18 : decode cX10_differ 18 = .ok (.iload_n 2, 1) := by decide +kernel
theorem dX10_differ_19 : decode cX10_differ 19 = .ok (.invokevirtual 366, 3) := by decide +kernel
theorem dX10_differ_22 : decode cX10_differ 22 = .ok (.goto 5, 3) := by decide +kernel
theorem dX10_differ_25 : decode cX10_differ 25 = .ok (.bipush (-2), 2) := by decide +kernel
theorem dX10_differ_27 : decode cX10_differ 27 = .ok (.ireturn, 1) := by decide +kernel
theorem hd_yX10_differ : yX10_differ.cls = RX10 ∧ yX10_differ.cls ≠ "java/lang/invoke/MethodHandle" ∧ yX10_differ.cls ≠ "java/lang/invoke/VarHandle" ∧ (parseMethodDescriptor yX10_differ.desc).map (fun d => d.parameters.length) = some 2 := by decide +kernel
def uX10_differ : List Cond := List.cons (.code yX10_differ cX10_differ 3 (some .int)) (HAppend.hAppend ([.methodLink RX10 89 yX10_isLaw, .instanceMethod yX10_isLaw, .selects RX10 yX10_isLaw yX10_isLaw, .initialized RX10, .methodLink RX10 366 yX10_differOf, .instanceMethod yX10_differOf, .selects RX10 yX10_differOf yX10_differOf] : List Cond) (HAppend.hAppend uX10_isLaw uX10_differOf))
theorem guX10_differ : GU uX10_differ := gu_cons (gu_app (by decide +kernel) (gu_ap guX10_isLaw guX10_differOf))
theorem gX10_differ__X10_isLaw_V89 : GoodIn uX10_differ (wsV RX10 89 RX10 yX10_isLaw uX10_isLaw) := gin_V (List.mem_of_getElem? (i := 1) rfl) (List.mem_of_getElem? (i := 2) rfl) (List.mem_of_getElem? (i := 3) rfl) (List.mem_of_getElem? (i := 4) rfl) (fun _ h => (List.mem_cons_of_mem _ (List.mem_append_right _ (List.mem_append_left _ h)))) guX10_isLaw
theorem gX10_differ__X10_differOf_V366 : GoodIn uX10_differ (wsV RX10 366 RX10 yX10_differOf uX10_differOf) := gin_V (List.mem_of_getElem? (i := 5) rfl) (List.mem_of_getElem? (i := 6) rfl) (List.mem_of_getElem? (i := 7) rfl) (List.mem_of_getElem? (i := 4) rfl) (fun _ h => (List.mem_cons_of_mem _ (List.mem_append_right _ (List.mem_append_right _ h)))) guX10_differOf
set_option maxHeartbeats 4000000 in
set_option maxRecDepth 100000 in
theorem kX10_differ (l : Launch) (dC : Nat → ClassId) (dI : Nat → Nat → Nat) (o0 : Nat) (x_th : Int32) (mwo : Nat) (mim : Nat) (mhi : Nat) (mlu : Nat) (mtp : Nat) (x_td : Int32) (mfv : Nat) (x_sz : Int32) (x_at : Int32) (x_fr : Int32) (x_to : Int32) (x_va : Int32) (x_fk : Int32) (x_fp : Int32) (mfr : Nat) (mwt : Nat) (x_wt : Int32) (x_op : Int32) (x_jo : Int32) (mfg : Nat) (mpl : Nat) (x_dr : Int64) (mtm : Nat) (mfa : Nat) (mqu : Nat) (mmo : Nat) (mwy : Nat) (mwn : Nat) (mma : Nat) (mwi : Nat) (mnu : Nat) (mmv : Nat) (c_wo : ClassId) (c_lu : ClassId) (w_wo : Nat → Int32) (w_lu : Nat → Int32) (ln : Int32) (bs : Int32) (tk : Int32) (lw : Int32) (li : Int32) (a1 : Int32) (a2 : Int32) (b_ln : (0 : Int) ≤ ln.toInt ∧ ln.toInt ≤ 12) (b_bs : (0 : Int) ≤ bs.toInt ∧ bs.toInt ≤ 16) (b_tk : (0 : Int) ≤ tk.toInt ∧ tk.toInt ≤ 20000) (b_lw : (0 : Int) ≤ lw.toInt ∧ lw.toInt ≤ 9) (hw0 : w_wo 0 = ln) (hw1 : w_wo 1 = bs) (hw2 : w_wo 2 = tk) (hw3 : w_wo 3 = lw) (hw4 : w_wo 4 = li) (hwz : (ln.toInt = 0 ∧ bs.toInt = 0 ∧ tk.toInt = 0 ∧ lw.toInt = 0) ∨ (1 ≤ ln.toInt ∧ 2 ≤ bs.toInt ∧ 1 ≤ tk.toInt)) : Met l yX10_differ uX10_differ ({ frames := 2, cells := 0, slots := 0, locals := 46 }) (va_Pc [.ref o0, .int a1, .int a2] (pw (dC, dI) vwCl [(o0, .inr (8, [.int x_th, .ref mwo, .ref mim, .ref mhi, .ref mlu, .ref mtp, .int x_td, .ref mfv, .int x_sz, .int x_at, .int x_fr, .int x_to, .int x_va, .int x_fk, .int x_fp, .ref mfr, .ref mwt, .int x_wt, .int x_op, .int x_jo, .ref mfg, .ref mpl, .long x_dr, .ref mtm, .ref mfa, .ref mqu, .ref mmo, .ref mwy, .ref mwn, .ref mma, .ref mwi, .ref mnu, .ref mmv])), (mwo, .inl (c_wo, 1875, .inl w_wo)), (mlu, .inl (c_lu, 20000, .inl w_lu))] [(c_wo, .int), (c_lu, .int)])) (vp_Si (fun r => ((-2 : Int) ≤ r.toInt ∧ r.toInt ≤ 19999))) 0 0 (fun _ => False) := by
  refine Met.ofW (cc := cX10_differ) (maxL := 3) (ret := (some .int)) pn_X10 rfl ?_
  intro p e s m args below meth c s₁ B hml hv
  obtain ⟨rfl, hP, hK, hN⟩ := hv
  have hx := B.exec
  have hb := B.bytes
  have hr := B.returns
  have hts := atoms_spec (ws := uX10_differ) B.pre
  have hown : s.vm.findClass RX10 = some m.cls := hown_of B.named rfl
  have hlocks := B.notSynchronized
  have hl := lv_entry ([.ref o0, .int a1, .int a2]) (n := 3) (Nat.le_of_ble_eq_true rfl)
  rw [lg_entry_eq]
  generalize (lg_sl ([.ref o0, .int a1, .int a2]) ++ List.replicate (3 - (lg_sl ([.ref o0, .int a1, .int a2])).length) Slot.unset).toArray = ls at hl ⊢
  have hl : lv_has ls 3 [(0, .ref o0), (1, .int a1), (2, .int a2)] := hl
  refine lv_aload_n hx hb dX10_differ_0 rfl (lv_at hl 0 rfl) ?_
  refine lv_iload_n hx hb dX10_differ_1 rfl (lv_at hl 1 rfl) ?_
  refine vp_callSi (W.runV (As := [.int a1]) (rest := []) ⟨hx, hb, hml, hown, hts⟩ (kX10_isLaw l dC dI o0 x_th mwo mim mhi mlu mtp x_td mfv x_sz x_at x_fr x_to x_va x_fk x_fp mfr mwt x_wt x_op x_jo mfg mpl x_dr mtm mfa mqu mmo mwy mwn mma mwi mnu mmv c_wo w_wo ln bs tk lw li a1 b_ln b_bs b_tk b_lw (hw0) (hw1) (hw2) (hw3) (hw4) (hwz)) (cwV 1 hts gX10_differ__X10_isLaw_V89 rfl rfl rfl hd_yX10_isLaw ⟨lel 2 2 rfl, lel 46 46 rfl⟩) ⟨pw_fb, rcv_X10 hK hP (q0 := 0) rfl, (pw_use hP hK hN [0, 1] rfl [0] rfl)⟩ rfl rfl hl.1 rfl (lv_room (Nat.le_of_ble_eq_true rfl)) dX10_differ_2 ⟨lel 0 0 rfl, lel 0 0 rfl⟩) (fun r_8 h_r_8 => ?_)
  obtain ⟨b_r_8, nz_r_8⟩ := h_r_8
  have b_r_8 : (0 : Int) ≤ r_8.toInt ∧ r_8.toInt ≤ 1 := b_r_8
  refine lv_if_eq (tgt := 25) hx hb dX10_differ_5 (by decide) (fun c_9 => ?_) (fun c_9 => ?_)
  ·
    have n_c_9 : (r_8.toInt : Int) = 0 := c_eq rfl (by decide) c_9
    have b_r_8 : (0 : Int) ≤ r_8.toInt ∧ r_8.toInt ≤ 0 := r_eq1 b_r_8 (by decide : (0 : Int) ≤ (0 : Int32).toInt ∧ (0 : Int32).toInt ≤ 0) n_c_9 (by decide)
    refine lv_bipush (v := (-2)) hx hb dX10_differ_25 (by decide) ?_
    exact W.iret (v := (-2)) hx hb hr (fun t ht hW => ⟨(-2), rfl, (rg_w (by decide : (-2 : Int) ≤ ((-2) : Int32).toInt ∧ ((-2) : Int32).toInt ≤ -2) (by decide) (by decide)), ht⟩) t_nil dX10_differ_27
  ·
    have n_c_9 : (r_8.toInt : Int) ≠ 0 := c_ne rfl (by decide) c_9
    have b_r_8 : (1 : Int) ≤ r_8.toInt ∧ r_8.toInt ≤ 1 := r_ne1 b_r_8 (by decide : (0 : Int) ≤ (0 : Int32).toInt ∧ (0 : Int32).toInt ≤ 0) n_c_9 (by decide)
    obtain ⟨b_a1, g_10⟩ := nz_r_8 c_9
    refine lv_aload_n hx hb dX10_differ_8 rfl (lv_at hl 0 rfl) ?_
    refine lv_iload_n hx hb dX10_differ_9 rfl (lv_at hl 2 rfl) ?_
    refine vp_callSi (W.runV (As := [.int a2]) (rest := []) ⟨hx, hb, hml, hown, hts⟩ (kX10_isLaw l dC dI o0 x_th mwo mim mhi mlu mtp x_td mfv x_sz x_at x_fr x_to x_va x_fk x_fp mfr mwt x_wt x_op x_jo mfg mpl x_dr mtm mfa mqu mmo mwy mwn mma mwi mnu mmv c_wo w_wo ln bs tk lw li a2 b_ln b_bs b_tk b_lw (hw0) (hw1) (hw2) (hw3) (hw4) (hwz)) (cwV 1 hts gX10_differ__X10_isLaw_V89 rfl rfl rfl hd_yX10_isLaw ⟨lel 2 2 rfl, lel 46 46 rfl⟩) ⟨pw_fb, rcv_X10 hK hP (q0 := 0) rfl, (pw_use hP hK hN [0, 1] rfl [0] rfl)⟩ rfl rfl hl.1 rfl (lv_room (Nat.le_of_ble_eq_true rfl)) dX10_differ_10 ⟨lel 0 0 rfl, lel 0 0 rfl⟩) (fun r_11 h_r_11 => ?_)
    obtain ⟨b_r_11, nz_r_11⟩ := h_r_11
    have b_r_11 : (0 : Int) ≤ r_11.toInt ∧ r_11.toInt ≤ 1 := b_r_11
    refine lv_if_eq (tgt := 25) hx hb dX10_differ_13 (by decide) (fun c_12 => ?_) (fun c_12 => ?_)
    ·
      have n_c_12 : (r_11.toInt : Int) = 0 := c_eq rfl (by decide) c_12
      have b_r_11 : (0 : Int) ≤ r_11.toInt ∧ r_11.toInt ≤ 0 := r_eq1 b_r_11 (by decide : (0 : Int) ≤ (0 : Int32).toInt ∧ (0 : Int32).toInt ≤ 0) n_c_12 (by decide)
      refine lv_bipush (v := (-2)) hx hb dX10_differ_25 (by decide) ?_
      exact W.iret (v := (-2)) hx hb hr (fun t ht hW => ⟨(-2), rfl, (rg_w (by decide : (-2 : Int) ≤ ((-2) : Int32).toInt ∧ ((-2) : Int32).toInt ≤ -2) (by decide) (by decide)), ht⟩) t_nil dX10_differ_27
    ·
      have n_c_12 : (r_11.toInt : Int) ≠ 0 := c_ne rfl (by decide) c_12
      have b_r_11 : (1 : Int) ≤ r_11.toInt ∧ r_11.toInt ≤ 1 := r_ne1 b_r_11 (by decide : (0 : Int) ≤ (0 : Int32).toInt ∧ (0 : Int32).toInt ≤ 0) n_c_12 (by decide)
      obtain ⟨b_a2, g_13⟩ := nz_r_11 c_12
      refine lv_aload_n hx hb dX10_differ_16 rfl (lv_at hl 0 rfl) ?_
      refine lv_iload_n hx hb dX10_differ_17 rfl (lv_at hl 1 rfl) ?_
      refine lv_iload_n hx hb dX10_differ_18 rfl (lv_at hl 2 rfl) ?_
      refine vp_callSi (W.runV (As := [.int a1, .int a2]) (rest := []) ⟨hx, hb, hml, hown, hts⟩ (kX10_differOf l dC dI o0 x_th mwo mim mhi mlu mtp x_td mfv x_sz x_at x_fr x_to x_va x_fk x_fp mfr mwt x_wt x_op x_jo mfg mpl x_dr mtm mfa mqu mmo mwy mwn mma mwi mnu mmv c_wo c_lu w_wo w_lu ln bs tk lw li a1 a2 b_ln b_bs b_tk b_lw (hw0) (hw1) (hw2) (hw3) (hw4) (hwz)) (cwV 2 hts gX10_differ__X10_differOf_V366 rfl rfl rfl hd_yX10_differOf ⟨lel 2 2 rfl, lel 45 46 rfl⟩) ⟨pw_fb, rcv_X10 hK hP (q0 := 0) rfl, (pw_use hP hK hN [0, 1, 2] rfl [0, 1] rfl)⟩ rfl rfl hl.1 rfl (lv_room (Nat.le_of_ble_eq_true rfl)) dX10_differ_19 ⟨lel 0 0 rfl, lel 0 0 rfl⟩) (fun r_14 h_r_14 => ?_)
      have b_r_14 := h_r_14
      have b_r_14 : (-1 : Int) ≤ r_14.toInt ∧ r_14.toInt ≤ 19999 := b_r_14
      refine lv_goto (tgt := 27) hx hb dX10_differ_22 (by decide) ?_
      exact W.iret (v := r_14) hx hb hr (fun t ht hW => ⟨r_14, rfl, (rg_w b_r_14 (by decide) (by decide)), ht⟩) t_nil dX10_differ_27
theorem dX10_farFrom_0 : decode cX10_farFrom 0 = .ok (.iconst 0, 1) := by decide +kernel
theorem dX10_farFrom_1 : decode cX10_farFrom 1 = .ok (.istore_n 3, 1) := by decide +kernel
theorem dX10_farFrom_2 : decode cX10_farFrom 2 = .ok (.iload_n 1, 1) := by decide +kernel
theorem dX10_farFrom_3 : decode cX10_farFrom 3 = .ok (.istore 4, 2) := by decide +kernel
theorem dX10_farFrom_5 : decode cX10_farFrom 5 = .ok (.iload_n 2, 1) := by decide +kernel
theorem dX10_farFrom_6 : decode cX10_farFrom 6 = .ok (.istore 5, 2) := by decide +kernel
theorem dX10_farFrom_8 : decode cX10_farFrom 8 = .ok (.iconst 0, 1) := by decide +kernel
theorem dX10_farFrom_9 : decode cX10_farFrom 9 = .ok (.istore 6, 2) := by decide +kernel
theorem dX10_farFrom_11 : decode cX10_farFrom 11 = .ok (.iload 6, 2) := by decide +kernel
theorem dX10_farFrom_13 : decode cX10_farFrom 13 = .ok (.aload_n 0, 1) := by decide +kernel
theorem dX10_farFrom_14 : decode cX10_farFrom 14 = .ok (.getfield 9, 3) := by decide +kernel
theorem dX10_farFrom_17 : decode cX10_farFrom 17 = .ok (.iconst 0, 1) := by decide +kernel
theorem dX10_farFrom_18 : decode cX10_farFrom 18 = .ok (.iaload, 1) := by decide +kernel
theorem dX10_farFrom_19 : decode cX10_farFrom 19 = .ok (.if_icmp .ge 60, 3) := by decide +kernel
theorem dX10_farFrom_22 : decode cX10_farFrom 22 = .ok (.iload_n 3, 1) := by decide +kernel
theorem dX10_farFrom_23 : decode cX10_farFrom 23 = .ok (.iload 4, 2) := by decide +kernel
theorem dX10_farFrom_25 : decode cX10_farFrom 25 = .ok (.aload_n 0, 1) := by decide +kernel
theorem dX10_farFrom_26 : decode cX10_farFrom 26 = .ok (.getfield 9, 3) := by decide +kernel
theorem dX10_farFrom_29 : decode cX10_farFrom 29 = .ok (.iconst 1, 1) := by decide +kernel
theorem dX10_farFrom_30 : decode cX10_farFrom 30 = .ok (.iaload, 1) := by decide +kernel
theorem dX10_farFrom_31 : decode cX10_farFrom 31 = .ok (.irem, 1) := by decide +kernel
theorem dX10_farFrom_32 : decode cX10_farFrom 32 = .ok (.iload 5, 2) := by decide +kernel
theorem dX10_farFrom_34 : decode cX10_farFrom 34 = .ok (.aload_n 0, 1) := by decide +kernel
theorem dX10_farFrom_35 : decode cX10_farFrom 35 = .ok (.getfield 9, 3) := by decide +kernel
theorem dX10_farFrom_38 : decode cX10_farFrom 38 = .ok (.iconst 1, 1) := by decide +kernel
theorem dX10_farFrom_39 : decode cX10_farFrom 39 = .ok (.iaload, 1) := by decide +kernel
theorem dX10_farFrom_40 : decode cX10_farFrom 40 = .ok (.irem, 1) := by decide +kernel
theorem dX10_farFrom_41 : decode cX10_farFrom 41 = .ok (.if_icmp .ne 7, 3) := by decide +kernel
theorem dX10_farFrom_44 : decode cX10_farFrom 44 = .ok (.iconst 0, 1) := by decide +kernel
theorem dX10_farFrom_45 : decode cX10_farFrom 45 = .ok (.goto 4, 3) := by decide +kernel
theorem dX10_farFrom_48 : decode cX10_farFrom 48 = .ok (.iconst 1, 1) := by decide +kernel
theorem dX10_farFrom_49 : decode cX10_farFrom 49 = .ok (.iadd, 1) := by decide +kernel
theorem dX10_farFrom_50 : decode cX10_farFrom 50 = .ok (.istore_n 3, 1) := by decide +kernel
theorem dX10_farFrom_51 : decode cX10_farFrom 51 = .ok (.iload 4, 2) := by decide +kernel
theorem dX10_farFrom_53 : decode cX10_farFrom 53 = .ok (.aload_n 0, 1) := by decide +kernel
theorem dX10_farFrom_54 : decode cX10_farFrom 54 = .ok (.getfield 9, 3) := by decide +kernel
theorem dX10_farFrom_57 : decode cX10_farFrom 57 = .ok (.iconst 1, 1) := by decide +kernel
theorem dX10_farFrom_58 : decode cX10_farFrom 58 = .ok (.iaload, 1) := by decide +kernel
theorem dX10_farFrom_59 : decode cX10_farFrom 59 = .ok (.idiv, 1) := by decide +kernel
theorem dX10_farFrom_60 : decode cX10_farFrom 60 = .ok (.istore 4, 2) := by decide +kernel
theorem dX10_farFrom_62 : decode cX10_farFrom 62 = .ok (.iload 5, 2) := by decide +kernel
theorem dX10_farFrom_64 : decode cX10_farFrom 64 = .ok (.aload_n 0, 1) := by decide +kernel
theorem dX10_farFrom_65 : decode cX10_farFrom 65 = .ok (.getfield 9, 3) := by decide +kernel
theorem dX10_farFrom_68 : decode cX10_farFrom 68 = .ok (.iconst 1, 1) := by decide +kernel
theorem dX10_farFrom_69 : decode cX10_farFrom 69 = .ok (.iaload, 1) := by decide +kernel
theorem dX10_farFrom_70 : decode cX10_farFrom 70 = .ok (.idiv, 1) := by decide +kernel
theorem dX10_farFrom_71 : decode cX10_farFrom 71 = .ok (.istore 5, 2) := by decide +kernel
theorem dX10_farFrom_73 : decode cX10_farFrom 73 = .ok (.iinc 6 1, 3) := by decide +kernel
theorem dX10_farFrom_76 : decode cX10_farFrom 76 = .ok (.goto (-65), 3) := by decide +kernel
theorem dX10_farFrom_79 : decode cX10_farFrom 79 = .ok (.iload_n 3, 1) := by decide +kernel
theorem dX10_farFrom_80 : decode cX10_farFrom 80 = .ok (.ireturn, 1) := by decide +kernel
theorem hd_yX10_farFrom : yX10_farFrom.cls = RX10 ∧ yX10_farFrom.cls ≠ "java/lang/invoke/MethodHandle" ∧ yX10_farFrom.cls ≠ "java/lang/invoke/VarHandle" ∧ (parseMethodDescriptor yX10_farFrom.desc).map (fun d => d.parameters.length) = some 2 := by decide +kernel
def uX10_farFrom : List Cond := List.cons (.code yX10_farFrom cX10_farFrom 7 (some .int)) (HAppend.hAppend ([.fieldLink RX10 9 "LuckyTicketModel" "world" "[I"] : List Cond) wsX100)
theorem iX10_farFrom_X10 : ∀ w ∈ wsX100, w ∈ uX10_farFrom := fun _ h => (List.mem_cons_of_mem _ (List.mem_append_right _ h))
theorem guX10_farFrom : GU uX10_farFrom := gu_cons (gu_app (by decide +kernel) gws_X10)
set_option maxHeartbeats 4000000 in
set_option maxRecDepth 100000 in
theorem kX10_farFrom (l : Launch) (dC : Nat → ClassId) (dI : Nat → Nat → Nat) (o0 : Nat) (x_th : Int32) (mwo : Nat) (mim : Nat) (mhi : Nat) (mlu : Nat) (mtp : Nat) (x_td : Int32) (mfv : Nat) (x_sz : Int32) (x_at : Int32) (x_fr : Int32) (x_to : Int32) (x_va : Int32) (x_fk : Int32) (x_fp : Int32) (mfr : Nat) (mwt : Nat) (x_wt : Int32) (x_op : Int32) (x_jo : Int32) (mfg : Nat) (mpl : Nat) (x_dr : Int64) (mtm : Nat) (mfa : Nat) (mqu : Nat) (mmo : Nat) (mwy : Nat) (mwn : Nat) (mma : Nat) (mwi : Nat) (mnu : Nat) (mmv : Nat) (c_wo : ClassId) (w_wo : Nat → Int32) (ln : Int32) (bs : Int32) (tk : Int32) (lw : Int32) (li : Int32) (a1 : Int32) (a2 : Int32) (b_ln : (0 : Int) ≤ ln.toInt ∧ ln.toInt ≤ 12) (b_bs : (0 : Int) ≤ bs.toInt ∧ bs.toInt ≤ 16) (b_tk : (0 : Int) ≤ tk.toInt ∧ tk.toInt ≤ 20000) (b_lw : (0 : Int) ≤ lw.toInt ∧ lw.toInt ≤ 9) (b_a1 : (0 : Int) ≤ a1.toInt ∧ a1.toInt ≤ 19999) (b_a2 : (0 : Int) ≤ a2.toInt ∧ a2.toInt ≤ 19999) (hw0 : w_wo 0 = ln) (hw1 : w_wo 1 = bs) (hw2 : w_wo 2 = tk) (hw3 : w_wo 3 = lw) (hw4 : w_wo 4 = li) (hwz : (ln.toInt = 0 ∧ bs.toInt = 0 ∧ tk.toInt = 0 ∧ lw.toInt = 0) ∨ (1 ≤ ln.toInt ∧ 2 ≤ bs.toInt ∧ 1 ≤ tk.toInt)) : Met l yX10_farFrom uX10_farFrom ({ frames := 0, cells := 0, slots := 0, locals := 0 }) (va_Pc [.ref o0, .int a1, .int a2] (pw (dC, dI) vwCl [(o0, .inr (8, [.int x_th, .ref mwo, .ref mim, .ref mhi, .ref mlu, .ref mtp, .int x_td, .ref mfv, .int x_sz, .int x_at, .int x_fr, .int x_to, .int x_va, .int x_fk, .int x_fp, .ref mfr, .ref mwt, .int x_wt, .int x_op, .int x_jo, .ref mfg, .ref mpl, .long x_dr, .ref mtm, .ref mfa, .ref mqu, .ref mmo, .ref mwy, .ref mwn, .ref mma, .ref mwi, .ref mnu, .ref mmv])), (mwo, .inl (c_wo, 1875, .inl w_wo))] [(c_wo, .int)])) (vp_Si (fun r => True)) 0 0 (fun _ => False) := by
  refine Met.ofW (cc := cX10_farFrom) (maxL := 7) (ret := (some .int)) pn_X10 rfl ?_
  intro p e s m args below meth c s₁ B hml hv
  obtain ⟨rfl, hP, hK, hN⟩ := hv
  have hx := B.exec
  have hb := B.bytes
  have hr := B.returns
  have hts := atoms_spec (ws := uX10_farFrom) B.pre
  have hown : s.vm.findClass RX10 = some m.cls := hown_of B.named rfl
  have hlocks := B.notSynchronized
  have hl := lv_entry ([.ref o0, .int a1, .int a2]) (n := 7) (Nat.le_of_ble_eq_true rfl)
  rw [lg_entry_eq]
  generalize (lg_sl ([.ref o0, .int a1, .int a2]) ++ List.replicate (7 - (lg_sl ([.ref o0, .int a1, .int a2])).length) Slot.unset).toArray = ls at hl ⊢
  have hl : lv_has ls 7 [(0, .ref o0), (1, .int a1), (2, .int a2)] := hl
  refine lv_iconst (v := 0) hx hb dX10_farFrom_0 (by decide) ?_
  refine lv_istore_n (lv' := [(3, .int 0), (0, .ref o0), (1, .int a1), (2, .int a2)]) hx hb dX10_farFrom_1 rfl hl (by decide) rfl (fun ls hl => ?_)
  refine lv_iload_n hx hb dX10_farFrom_2 rfl (lv_at hl 2 rfl) ?_
  refine lv_istore (lv' := [(4, .int a1), (3, .int 0), (0, .ref o0), (1, .int a1), (2, .int a2)]) hx hb dX10_farFrom_3 hl (by decide) rfl (fun ls hl => ?_)
  refine lv_iload_n hx hb dX10_farFrom_5 rfl (lv_at hl 4 rfl) ?_
  refine lv_istore (lv' := [(5, .int a2), (4, .int a1), (3, .int 0), (0, .ref o0), (1, .int a1), (2, .int a2)]) hx hb dX10_farFrom_6 hl (by decide) rfl (fun ls hl => ?_)
  refine lv_iconst (v := 0) hx hb dX10_farFrom_8 (by decide) ?_
  refine lv_istore (lv' := [(6, .int 0), (5, .int a2), (4, .int a1), (3, .int 0), (0, .ref o0), (1, .int a1), (2, .int a2)]) hx hb dX10_farFrom_9 hl (by decide) rfl (fun ls hl => ?_)
  refine loopP (σ := Int32 × Int32 × Int32 × Int32) (fun v => (12 - v.1.toInt).toNat) (fun v ls => ((0 : Int) ≤ v.1.toInt ∧ v.1.toInt ≤ 12) ∧ ((0 : Int) ≤ v.2.1.toInt ∧ v.2.1.toInt ≤ 19999) ∧ ((0 : Int) ≤ v.2.2.1.toInt ∧ v.2.2.1.toInt ≤ 19999) ∧ lv_has ls 7 [(6, .int v.1), (5, .int v.2.1), (4, .int v.2.2.1), (3, .int v.2.2.2), (0, .ref o0), (1, .int a1), (2, .int a2)]) (fun v ls hI ih_11_470 => ?_) ((0 : Int32), a2, a1, (0 : Int32)) ⟨(show (0 : Int) ≤ (0 : Int32).toInt ∧ (0 : Int32).toInt ≤ 12 from (rg_w (by decide : (0 : Int) ≤ (0 : Int32).toInt ∧ (0 : Int32).toInt ≤ 0) (by decide) (by decide))), (show (0 : Int) ≤ a2.toInt ∧ a2.toInt ≤ 19999 from b_a2), (show (0 : Int) ≤ a1.toInt ∧ a1.toInt ≤ 19999 from b_a1), lv_sub hl [0, 1, 2, 3, 4, 5, 6] rfl⟩
  obtain ⟨y_257, y_258, y_259, y_260⟩ := v
  obtain ⟨b_y_257, b_y_258, b_y_259, hl⟩ := hI
  have b_y_257 : (0 : Int) ≤ y_257.toInt ∧ y_257.toInt ≤ 12 := b_y_257
  have b_y_258 : (0 : Int) ≤ y_258.toInt ∧ y_258.toInt ≤ 19999 := b_y_258
  have b_y_259 : (0 : Int) ≤ y_259.toInt ∧ y_259.toInt ≤ 19999 := b_y_259
  have hl : lv_has ls 7 [(6, .int y_257), (5, .int y_258), (4, .int y_259), (3, .int y_260), (0, .ref o0), (1, .int a1), (2, .int a2)] := hl
  refine lv_iload hx hb dX10_farFrom_11 (lv_at hl 0 rfl) ?_
  refine lv_aload_n hx hb dX10_farFrom_13 rfl (lv_at hl 4 rfl) ?_
  refine va_get (D := (dC, dI)) (ci := 8) (v := .ref mwo) (C := RX10) (T := TX10) (N := 33) hx hb hts iX10_farFrom_X10 hown hK hP 0 rfl rfl 1 (by decide) (hts (.fieldLink RX10 9 "LuckyTicketModel" "world" "[I") (List.mem_of_getElem? (i := 1) rfl)) (fun _ h9 => h9) rfl dX10_farFrom_14 ?_
  refine lv_iconst (v := 0) hx hb dX10_farFrom_17 (by decide) ?_
  refine va_iald hx hb hK hP 1 0 rfl rfl (vp_in_b (by decide : (0 : Int) ≤ (0 : Int32).toInt ∧ (0 : Int32).toInt ≤ 0) (by decide) (by decide)) dX10_farFrom_18 ?_
  refine lv_topi (fun z_471 e_z_471 => ?_)
  obtain rfl : ln = z_471 := (e_z_471.trans hw0).symm
  refine lv_icmp_ge (tgt := 79) hx hb dX10_farFrom_19 (by decide) (fun c_472 => ?_) (fun c_472 => ?_)
  ·
    have n_c_472 : (ln.toInt : Int) ≤ y_257.toInt := c_ge rfl rfl c_472
    refine lv_iload_n hx hb dX10_farFrom_79 rfl (lv_at hl 3 rfl) ?_
    exact W.iret (v := y_260) hx hb hr (fun t ht hW => ⟨y_260, rfl, trivial, ht⟩) t_nil dX10_farFrom_80
  ·
    have n_c_472 : (y_257.toInt : Int) < ln.toInt := c_nge rfl rfl c_472
    have b_y_257 : (0 : Int) ≤ y_257.toInt ∧ y_257.toInt ≤ 11 := r_lt1 b_y_257 b_ln n_c_472 (by decide)
    have b_ln : (1 : Int) ≤ ln.toInt ∧ ln.toInt ≤ 12 := r_lt2 b_y_257 b_ln n_c_472 (by decide)
    refine lv_iload_n hx hb dX10_farFrom_22 rfl (lv_at hl 3 rfl) ?_
    refine lv_iload hx hb dX10_farFrom_23 (lv_at hl 2 rfl) ?_
    refine lv_aload_n hx hb dX10_farFrom_25 rfl (lv_at hl 4 rfl) ?_
    refine va_get (D := (dC, dI)) (ci := 8) (v := .ref mwo) (C := RX10) (T := TX10) (N := 33) hx hb hts iX10_farFrom_X10 hown hK hP 0 rfl rfl 1 (by decide) (hts (.fieldLink RX10 9 "LuckyTicketModel" "world" "[I") (List.mem_of_getElem? (i := 1) rfl)) (fun _ h9 => h9) rfl dX10_farFrom_26 ?_
    refine lv_iconst (v := 1) hx hb dX10_farFrom_29 (by decide) ?_
    refine va_iald hx hb hK hP 1 0 rfl rfl (vp_in_b (by decide : (1 : Int) ≤ (1 : Int32).toInt ∧ (1 : Int32).toInt ≤ 1) (by decide) (by decide)) dX10_farFrom_30 ?_
    refine lv_topi (fun z_473 e_z_473 => ?_)
    obtain rfl : bs = z_473 := (e_z_473.trans hw1).symm
    have b_bs : (1 : Int) ≤ bs.toInt ∧ bs.toInt ≤ 16 := ⟨by omega, (b_bs).2⟩
    refine lv_irem hx hb dX10_farFrom_31 (ti_ne b_bs (by decide)) ?_
    refine lv_topi (fun z_474 e_z_474 => ?_)
    obtain ⟨q_z_474, b_z_474⟩ := ti_rem (hi := 15) e_z_474 rfl rfl b_y_259 b_bs (by decide)
    refine lv_iload hx hb dX10_farFrom_32 (lv_at hl 1 rfl) ?_
    refine lv_aload_n hx hb dX10_farFrom_34 rfl (lv_at hl 4 rfl) ?_
    refine va_get (D := (dC, dI)) (ci := 8) (v := .ref mwo) (C := RX10) (T := TX10) (N := 33) hx hb hts iX10_farFrom_X10 hown hK hP 0 rfl rfl 1 (by decide) (hts (.fieldLink RX10 9 "LuckyTicketModel" "world" "[I") (List.mem_of_getElem? (i := 1) rfl)) (fun _ h9 => h9) rfl dX10_farFrom_35 ?_
    refine lv_iconst (v := 1) hx hb dX10_farFrom_38 (by decide) ?_
    refine va_iald hx hb hK hP 1 0 rfl rfl (vp_in_b (by decide : (1 : Int) ≤ (1 : Int32).toInt ∧ (1 : Int32).toInt ≤ 1) (by decide) (by decide)) dX10_farFrom_39 ?_
    refine lv_topi (fun z_475 e_z_475 => ?_)
    obtain rfl : bs = z_475 := (e_z_475.trans hw1).symm
    refine lv_irem hx hb dX10_farFrom_40 (ti_ne b_bs (by decide)) ?_
    refine lv_topi (fun z_476 e_z_476 => ?_)
    obtain ⟨q_z_476, b_z_476⟩ := ti_rem (hi := 15) e_z_476 rfl rfl b_y_258 b_bs (by decide)
    refine cutP (σ := Int32) (pc2 := 49) (st2 := fun v => [.int v, .int y_260]) (cells2 := 0) (slots2 := 0) (fun v ls => ((0 : Int) ≤ v.toInt ∧ v.toInt ≤ 1) ∧ lv_has ls 7 [(6, .int y_257), (5, .int y_258), (4, .int y_259), (3, .int y_260), (0, .ref o0), (1, .int a1), (2, .int a2)]) (fun v ls hI => ?_) (fun hj_49_478 => ?_)
    ·
      obtain ⟨y_478, rfl⟩ : ∃ z, z = v := ⟨_, rfl⟩
      obtain ⟨b_y_478, hl⟩ := hI
      have b_y_478 : (0 : Int) ≤ y_478.toInt ∧ y_478.toInt ≤ 1 := b_y_478
      have hl : lv_has ls 7 [(6, .int y_257), (5, .int y_258), (4, .int y_259), (3, .int y_260), (0, .ref o0), (1, .int a1), (2, .int a2)] := hl
      refine lv_iadd hx hb dX10_farFrom_49 ?_
      refine lv_topi (fun z_479 e_z_479 => ?_)
      refine lv_istore_n (lv' := [(3, .int z_479), (6, .int y_257), (5, .int y_258), (4, .int y_259), (0, .ref o0), (1, .int a1), (2, .int a2)]) hx hb dX10_farFrom_50 rfl hl (by decide) rfl (fun ls hl => ?_)
      refine lv_iload hx hb dX10_farFrom_51 (lv_at hl 3 rfl) ?_
      refine lv_aload_n hx hb dX10_farFrom_53 rfl (lv_at hl 4 rfl) ?_
      refine va_get (D := (dC, dI)) (ci := 8) (v := .ref mwo) (C := RX10) (T := TX10) (N := 33) hx hb hts iX10_farFrom_X10 hown hK hP 0 rfl rfl 1 (by decide) (hts (.fieldLink RX10 9 "LuckyTicketModel" "world" "[I") (List.mem_of_getElem? (i := 1) rfl)) (fun _ h9 => h9) rfl dX10_farFrom_54 ?_
      refine lv_iconst (v := 1) hx hb dX10_farFrom_57 (by decide) ?_
      refine va_iald hx hb hK hP 1 0 rfl rfl (vp_in_b (by decide : (1 : Int) ≤ (1 : Int32).toInt ∧ (1 : Int32).toInt ≤ 1) (by decide) (by decide)) dX10_farFrom_58 ?_
      refine lv_topi (fun z_480 e_z_480 => ?_)
      obtain rfl : bs = z_480 := (e_z_480.trans hw1).symm
      refine lv_idiv hx hb dX10_farFrom_59 (ti_ne b_bs (by decide)) ?_
      refine lv_topi (fun z_481 e_z_481 => ?_)
      obtain ⟨q_z_481, b_z_481⟩ := ti_div (hi := 19999) e_z_481 rfl rfl b_y_259 b_bs (by decide)
      refine lv_istore (lv' := [(4, .int z_481), (3, .int z_479), (6, .int y_257), (5, .int y_258), (0, .ref o0), (1, .int a1), (2, .int a2)]) hx hb dX10_farFrom_60 hl (by decide) rfl (fun ls hl => ?_)
      refine lv_iload hx hb dX10_farFrom_62 (lv_at hl 3 rfl) ?_
      refine lv_aload_n hx hb dX10_farFrom_64 rfl (lv_at hl 4 rfl) ?_
      refine va_get (D := (dC, dI)) (ci := 8) (v := .ref mwo) (C := RX10) (T := TX10) (N := 33) hx hb hts iX10_farFrom_X10 hown hK hP 0 rfl rfl 1 (by decide) (hts (.fieldLink RX10 9 "LuckyTicketModel" "world" "[I") (List.mem_of_getElem? (i := 1) rfl)) (fun _ h9 => h9) rfl dX10_farFrom_65 ?_
      refine lv_iconst (v := 1) hx hb dX10_farFrom_68 (by decide) ?_
      refine va_iald hx hb hK hP 1 0 rfl rfl (vp_in_b (by decide : (1 : Int) ≤ (1 : Int32).toInt ∧ (1 : Int32).toInt ≤ 1) (by decide) (by decide)) dX10_farFrom_69 ?_
      refine lv_topi (fun z_482 e_z_482 => ?_)
      obtain rfl : bs = z_482 := (e_z_482.trans hw1).symm
      refine lv_idiv hx hb dX10_farFrom_70 (ti_ne b_bs (by decide)) ?_
      refine lv_topi (fun z_483 e_z_483 => ?_)
      obtain ⟨q_z_483, b_z_483⟩ := ti_div (hi := 19999) e_z_483 rfl rfl b_y_258 b_bs (by decide)
      refine lv_istore (lv' := [(5, .int z_483), (4, .int z_481), (3, .int z_479), (6, .int y_257), (0, .ref o0), (1, .int a1), (2, .int a2)]) hx hb dX10_farFrom_71 hl (by decide) rfl (fun ls hl => ?_)
      obtain ⟨z_484, e_z_484⟩ : ∃ y : Int32, y = y_257 + 1 := ⟨_, rfl⟩
      refine lv_iinc (v := z_484) (lv' := [(6, .int z_484), (5, .int z_483), (4, .int z_481), (3, .int z_479), (0, .ref o0), (1, .int a1), (2, .int a2)]) hx hb dX10_farFrom_73 hl (k := 3) rfl (by rw [e_z_484]; rfl) (by decide) rfl (fun ls hl => ?_)
      obtain ⟨q_z_484, b_z_484⟩ := ti_add (lo := 1) (hi := 12) e_z_484 rfl (by decide : (1 : Int32).toInt = 1) b_y_257 (by decide : (1 : Int) ≤ (1 : Int32).toInt ∧ (1 : Int32).toInt ≤ 1) (by decide)
      refine lv_goto (tgt := 11) hx hb dX10_farFrom_76 (by decide) ?_
      exact ih_11_470 (z_484, z_483, z_481, z_479) _ ⟨(show (0 : Int) ≤ z_484.toInt ∧ z_484.toInt ≤ 12 from (rg_w b_z_484 (by decide) (by decide))), (show (0 : Int) ≤ z_483.toInt ∧ z_483.toInt ≤ 19999 from b_z_483), (show (0 : Int) ≤ z_481.toInt ∧ z_481.toInt ≤ 19999 from b_z_481), lv_sub hl [0, 1, 2, 3, 4, 5, 6] rfl⟩ (show (12 - z_484.toInt).toNat < (12 - y_257.toInt).toNat by omega)
    ·
      refine lv_icmp_ne (tgt := 48) hx hb dX10_farFrom_41 (by decide) (fun c_477 => ?_) (fun c_477 => ?_)
      ·
        have n_c_477 : (z_474.toInt : Int) ≠ z_476.toInt := c_ne rfl rfl c_477
        refine lv_iconst (v := 1) hx hb dX10_farFrom_48 (by decide) ?_
        exact hj_49_478 (1 : Int32) _ ⟨(show (0 : Int) ≤ (1 : Int32).toInt ∧ (1 : Int32).toInt ≤ 1 from (rg_w (by decide : (1 : Int) ≤ (1 : Int32).toInt ∧ (1 : Int32).toInt ≤ 1) (by decide) (by decide))), lv_sub hl [0, 1, 2, 3, 4, 5, 6] rfl⟩
      ·
        have n_c_477 : (z_474.toInt : Int) = z_476.toInt := c_eq rfl rfl c_477
        refine lv_iconst (v := 0) hx hb dX10_farFrom_44 (by decide) ?_
        refine lv_goto (tgt := 49) hx hb dX10_farFrom_45 (by decide) ?_
        exact hj_49_478 (0 : Int32) _ ⟨(show (0 : Int) ≤ (0 : Int32).toInt ∧ (0 : Int32).toInt ≤ 1 from (rg_w (by decide : (0 : Int) ≤ (0 : Int32).toInt ∧ (0 : Int32).toInt ≤ 0) (by decide) (by decide))), lv_sub hl [0, 1, 2, 3, 4, 5, 6] rfl⟩
theorem dX10_mendedOf_0 : decode cX10_mendedOf 0 = .ok (.iconst (-1), 1) := by decide +kernel
theorem dX10_mendedOf_1 : decode cX10_mendedOf 1 = .ok (.istore_n 3, 1) := by decide +kernel
theorem dX10_mendedOf_2 : decode cX10_mendedOf 2 = .ok (.bipush 13, 2) := by decide +kernel
theorem dX10_mendedOf_4 : decode cX10_mendedOf 4 = .ok (.istore 4, 2) := by decide +kernel
theorem dX10_mendedOf_6 : decode cX10_mendedOf 6 = .ok (.iconst 0, 1) := by decide +kernel
theorem dX10_mendedOf_7 : decode cX10_mendedOf 7 = .ok (.istore 5, 2) := by decide +kernel
theorem dX10_mendedOf_9 : decode cX10_mendedOf 9 = .ok (.iload 5, 2) := by decide +kernel
theorem dX10_mendedOf_11 : decode cX10_mendedOf 11 = .ok (.aload_n 0, 1) := by decide +kernel
theorem dX10_mendedOf_12 : decode cX10_mendedOf 12 = .ok (.getfield 9, 3) := by decide +kernel
theorem dX10_mendedOf_15 : decode cX10_mendedOf 15 = .ok (.iconst 2, 1) := by decide +kernel
theorem dX10_mendedOf_16 : decode cX10_mendedOf 16 = .ok (.iaload, 1) := by decide +kernel
theorem dX10_mendedOf_17 : decode cX10_mendedOf 17 = .ok (.if_icmp .ge 46, 3) := by decide +kernel
theorem dX10_mendedOf_20 : decode cX10_mendedOf 20 = .ok (.aload_n 0, 1) := by decide +kernel
theorem dX10_mendedOf_21 : decode cX10_mendedOf 21 = .ok (.iload_n 1, 1) := by decide +kernel
theorem dX10_mendedOf_22 : decode cX10_mendedOf 22 = .ok (.iload 5, 2) := by decide +kernel
theorem dX10_mendedOf_24 : decode cX10_mendedOf 24 = .ok (.invokevirtual 316, 3) := by decide +kernel
theorem dX10_mendedOf_27 : decode cX10_mendedOf 27 = .ok (.ifCond .eq 30, 3) := by decide +kernel
theorem dX10_mendedOf_30 : decode cX10_mendedOf 30 = .ok (.aload_n 0, 1) := by decide +kernel
theorem dX10_mendedOf_31 : decode cX10_mendedOf 31 = .ok (.iload 5, 2) := by decide +kernel
theorem dX10_mendedOf_33 : decode cX10_mendedOf 33 = .ok (.iload_n 2, 1) := by decide +kernel
theorem dX10_mendedOf_34 : decode cX10_mendedOf 34 = .ok (.invokevirtual 384, 3) := by decide +kernel
theorem dX10_mendedOf_37 : decode cX10_mendedOf 37 = .ok (.iload 4, 2) := by decide +kernel
theorem dX10_mendedOf_39 : decode cX10_mendedOf 39 = .ok (.if_icmp .lt 6, 3) := by decide +kernel
theorem dX10_mendedOf_42 : decode cX10_mendedOf 42 = .ok (.goto 15, 3) := by decide +kernel
theorem dX10_mendedOf_45 : decode cX10_mendedOf 45 = .ok (.iload 5, 2) := by decide +kernel
theorem dX10_mendedOf_47 : decode cX10_mendedOf 47 = .ok (.istore_n 3, 1) := by decide +kernel
theorem dX10_mendedOf_48 : decode cX10_mendedOf 48 = .ok (.aload_n 0, 1) := by decide +kernel
theorem dX10_mendedOf_49 : decode cX10_mendedOf 49 = .ok (.iload 5, 2) := by decide +kernel
theorem dX10_mendedOf_51 : decode cX10_mendedOf 51 = .ok (.iload_n 2, 1) := by decide +kernel
theorem dX10_mendedOf_52 : decode cX10_mendedOf 52 = .ok (.invokevirtual 384, 3) := by decide +kernel
theorem dX10_mendedOf_55 : decode cX10_mendedOf 55 = .ok (.istore 4, 2) := by decide +kernel
theorem dX10_mendedOf_57 : decode cX10_mendedOf 57 = .ok (.iinc 5 1, 3) := by decide +kernel
theorem dX10_mendedOf_60 : decode cX10_mendedOf 60 = .ok (.goto (-51), 3) := by decide +kernel
theorem dX10_mendedOf_63 : decode cX10_mendedOf 63 = .ok (.iload_n 3, 1) := by decide +kernel
theorem dX10_mendedOf_64 : decode cX10_mendedOf 64 = .ok (.ireturn, 1) := by decide +kernel
theorem hd_yX10_mendedOf : yX10_mendedOf.cls = RX10 ∧ yX10_mendedOf.cls ≠ "java/lang/invoke/MethodHandle" ∧ yX10_mendedOf.cls ≠ "java/lang/invoke/VarHandle" ∧ (parseMethodDescriptor yX10_mendedOf.desc).map (fun d => d.parameters.length) = some 2 := by decide +kernel
def uX10_mendedOf : List Cond := List.cons (.code yX10_mendedOf cX10_mendedOf 6 (some .int)) (HAppend.hAppend ([.fieldLink RX10 9 "LuckyTicketModel" "world" "[I", .methodLink RX10 316 yX10_isLucky, .instanceMethod yX10_isLucky, .selects RX10 yX10_isLucky yX10_isLucky, .initialized RX10, .methodLink RX10 384 yX10_farFrom, .instanceMethod yX10_farFrom, .selects RX10 yX10_farFrom yX10_farFrom] : List Cond) (HAppend.hAppend uX10_isLucky (HAppend.hAppend uX10_farFrom wsX100)))
theorem iX10_mendedOf_X10 : ∀ w ∈ wsX100, w ∈ uX10_mendedOf := fun _ h => (List.mem_cons_of_mem _ (List.mem_append_right _ (List.mem_append_right _ (List.mem_append_right _ h))))
theorem guX10_mendedOf : GU uX10_mendedOf := gu_cons (gu_app (by decide +kernel) (gu_ap guX10_isLucky (gu_ap guX10_farFrom gws_X10)))
theorem gX10_mendedOf__X10_isLucky_V316 : GoodIn uX10_mendedOf (wsV RX10 316 RX10 yX10_isLucky uX10_isLucky) := gin_V (List.mem_of_getElem? (i := 2) rfl) (List.mem_of_getElem? (i := 3) rfl) (List.mem_of_getElem? (i := 4) rfl) (List.mem_of_getElem? (i := 5) rfl) (fun _ h => (List.mem_cons_of_mem _ (List.mem_append_right _ (List.mem_append_left _ h)))) guX10_isLucky
theorem gX10_mendedOf__X10_farFrom_V384 : GoodIn uX10_mendedOf (wsV RX10 384 RX10 yX10_farFrom uX10_farFrom) := gin_V (List.mem_of_getElem? (i := 6) rfl) (List.mem_of_getElem? (i := 7) rfl) (List.mem_of_getElem? (i := 8) rfl) (List.mem_of_getElem? (i := 5) rfl) (fun _ h => (List.mem_cons_of_mem _ (List.mem_append_right _ (List.mem_append_right _ (List.mem_append_left _ h))))) guX10_farFrom
set_option maxHeartbeats 4000000 in
set_option maxRecDepth 100000 in
theorem kX10_mendedOf (l : Launch) (dC : Nat → ClassId) (dI : Nat → Nat → Nat) (o0 : Nat) (x_th : Int32) (mwo : Nat) (mim : Nat) (mhi : Nat) (mlu : Nat) (mtp : Nat) (x_td : Int32) (mfv : Nat) (x_sz : Int32) (x_at : Int32) (x_fr : Int32) (x_to : Int32) (x_va : Int32) (x_fk : Int32) (x_fp : Int32) (mfr : Nat) (mwt : Nat) (x_wt : Int32) (x_op : Int32) (x_jo : Int32) (mfg : Nat) (mpl : Nat) (x_dr : Int64) (mtm : Nat) (mfa : Nat) (mqu : Nat) (mmo : Nat) (mwy : Nat) (mwn : Nat) (mma : Nat) (mwi : Nat) (mnu : Nat) (mmv : Nat) (c_wo : ClassId) (c_lu : ClassId) (w_wo : Nat → Int32) (w_lu : Nat → Int32) (ln : Int32) (bs : Int32) (tk : Int32) (lw : Int32) (li : Int32) (a1 : Int32) (a2 : Int32) (b_ln : (0 : Int) ≤ ln.toInt ∧ ln.toInt ≤ 12) (b_bs : (0 : Int) ≤ bs.toInt ∧ bs.toInt ≤ 16) (b_tk : (0 : Int) ≤ tk.toInt ∧ tk.toInt ≤ 20000) (b_lw : (0 : Int) ≤ lw.toInt ∧ lw.toInt ≤ 9) (b_a2 : (0 : Int) ≤ a2.toInt ∧ a2.toInt ≤ 19999) (hw0 : w_wo 0 = ln) (hw1 : w_wo 1 = bs) (hw2 : w_wo 2 = tk) (hw3 : w_wo 3 = lw) (hw4 : w_wo 4 = li) (hwz : (ln.toInt = 0 ∧ bs.toInt = 0 ∧ tk.toInt = 0 ∧ lw.toInt = 0) ∨ (1 ≤ ln.toInt ∧ 2 ≤ bs.toInt ∧ 1 ≤ tk.toInt)) : Met l yX10_mendedOf uX10_mendedOf ({ frames := 1, cells := 0, slots := 0, locals := 26 }) (va_Pc [.ref o0, .int a1, .int a2] (pw (dC, dI) vwCl [(o0, .inr (8, [.int x_th, .ref mwo, .ref mim, .ref mhi, .ref mlu, .ref mtp, .int x_td, .ref mfv, .int x_sz, .int x_at, .int x_fr, .int x_to, .int x_va, .int x_fk, .int x_fp, .ref mfr, .ref mwt, .int x_wt, .int x_op, .int x_jo, .ref mfg, .ref mpl, .long x_dr, .ref mtm, .ref mfa, .ref mqu, .ref mmo, .ref mwy, .ref mwn, .ref mma, .ref mwi, .ref mnu, .ref mmv])), (mwo, .inl (c_wo, 1875, .inl w_wo)), (mlu, .inl (c_lu, 20000, .inl w_lu))] [(c_wo, .int), (c_lu, .int)])) (vp_Si (fun r => ((-1 : Int) ≤ r.toInt ∧ r.toInt ≤ 19999))) 0 0 (fun _ => False) := by
  refine Met.ofW (cc := cX10_mendedOf) (maxL := 6) (ret := (some .int)) pn_X10 rfl ?_
  intro p e s m args below meth c s₁ B hml hv
  obtain ⟨rfl, hP, hK, hN⟩ := hv
  have hx := B.exec
  have hb := B.bytes
  have hr := B.returns
  have hts := atoms_spec (ws := uX10_mendedOf) B.pre
  have hown : s.vm.findClass RX10 = some m.cls := hown_of B.named rfl
  have hlocks := B.notSynchronized
  have hl := lv_entry ([.ref o0, .int a1, .int a2]) (n := 6) (Nat.le_of_ble_eq_true rfl)
  rw [lg_entry_eq]
  generalize (lg_sl ([.ref o0, .int a1, .int a2]) ++ List.replicate (6 - (lg_sl ([.ref o0, .int a1, .int a2])).length) Slot.unset).toArray = ls at hl ⊢
  have hl : lv_has ls 6 [(0, .ref o0), (1, .int a1), (2, .int a2)] := hl
  refine lv_iconst (v := (-1)) hx hb dX10_mendedOf_0 (by decide) ?_
  refine lv_istore_n (lv' := [(3, .int (-1)), (0, .ref o0), (1, .int a1), (2, .int a2)]) hx hb dX10_mendedOf_1 rfl hl (by decide) rfl (fun ls hl => ?_)
  refine lv_bipush (v := 13) hx hb dX10_mendedOf_2 (by decide) ?_
  refine lv_istore (lv' := [(4, .int 13), (3, .int (-1)), (0, .ref o0), (1, .int a1), (2, .int a2)]) hx hb dX10_mendedOf_4 hl (by decide) rfl (fun ls hl => ?_)
  refine lv_iconst (v := 0) hx hb dX10_mendedOf_6 (by decide) ?_
  refine lv_istore (lv' := [(5, .int 0), (4, .int 13), (3, .int (-1)), (0, .ref o0), (1, .int a1), (2, .int a2)]) hx hb dX10_mendedOf_7 hl (by decide) rfl (fun ls hl => ?_)
  refine loopP (σ := Int32 × Int32 × Int32) (fun v => (20000 - v.1.toInt).toNat) (fun v ls => ((0 : Int) ≤ v.1.toInt ∧ v.1.toInt ≤ 20000) ∧ ((-1 : Int) ≤ v.2.2.toInt ∧ v.2.2.toInt ≤ 19999) ∧ lv_has ls 6 [(5, .int v.1), (4, .int v.2.1), (3, .int v.2.2), (0, .ref o0), (1, .int a1), (2, .int a2)]) (fun v ls hI ih_9_331 => ?_) ((0 : Int32), (13 : Int32), (-1 : Int32)) ⟨(show (0 : Int) ≤ (0 : Int32).toInt ∧ (0 : Int32).toInt ≤ 20000 from (rg_w (by decide : (0 : Int) ≤ (0 : Int32).toInt ∧ (0 : Int32).toInt ≤ 0) (by decide) (by decide))), (show (-1 : Int) ≤ (-1 : Int32).toInt ∧ (-1 : Int32).toInt ≤ 19999 from (rg_w (by decide : (-1 : Int) ≤ ((-1) : Int32).toInt ∧ ((-1) : Int32).toInt ≤ -1) (by decide) (by decide))), lv_sub hl [0, 1, 2, 3, 4, 5] rfl⟩
  obtain ⟨y_186, y_187, y_188⟩ := v
  obtain ⟨b_y_186, b_y_188, hl⟩ := hI
  have b_y_186 : (0 : Int) ≤ y_186.toInt ∧ y_186.toInt ≤ 20000 := b_y_186
  have b_y_188 : (-1 : Int) ≤ y_188.toInt ∧ y_188.toInt ≤ 19999 := b_y_188
  have hl : lv_has ls 6 [(5, .int y_186), (4, .int y_187), (3, .int y_188), (0, .ref o0), (1, .int a1), (2, .int a2)] := hl
  refine lv_iload hx hb dX10_mendedOf_9 (lv_at hl 0 rfl) ?_
  refine lv_aload_n hx hb dX10_mendedOf_11 rfl (lv_at hl 3 rfl) ?_
  refine va_get (D := (dC, dI)) (ci := 8) (v := .ref mwo) (C := RX10) (T := TX10) (N := 33) hx hb hts iX10_mendedOf_X10 hown hK hP 0 rfl rfl 1 (by decide) (hts (.fieldLink RX10 9 "LuckyTicketModel" "world" "[I") (List.mem_of_getElem? (i := 1) rfl)) (fun _ h9 => h9) rfl dX10_mendedOf_12 ?_
  refine lv_iconst (v := 2) hx hb dX10_mendedOf_15 (by decide) ?_
  refine va_iald hx hb hK hP 1 0 rfl rfl (vp_in_b (by decide : (2 : Int) ≤ (2 : Int32).toInt ∧ (2 : Int32).toInt ≤ 2) (by decide) (by decide)) dX10_mendedOf_16 ?_
  refine lv_topi (fun z_332 e_z_332 => ?_)
  obtain rfl : tk = z_332 := (e_z_332.trans hw2).symm
  refine lv_icmp_ge (tgt := 63) hx hb dX10_mendedOf_17 (by decide) (fun c_333 => ?_) (fun c_333 => ?_)
  ·
    have n_c_333 : (tk.toInt : Int) ≤ y_186.toInt := c_ge rfl rfl c_333
    refine lv_iload_n hx hb dX10_mendedOf_63 rfl (lv_at hl 2 rfl) ?_
    exact W.iret (v := y_188) hx hb hr (fun t ht hW => ⟨y_188, rfl, b_y_188, ht⟩) t_nil dX10_mendedOf_64
  ·
    have n_c_333 : (y_186.toInt : Int) < tk.toInt := c_nge rfl rfl c_333
    have b_y_186 : (0 : Int) ≤ y_186.toInt ∧ y_186.toInt ≤ 19999 := r_lt1 b_y_186 b_tk n_c_333 (by decide)
    have b_tk : (1 : Int) ≤ tk.toInt ∧ tk.toInt ≤ 20000 := r_lt2 b_y_186 b_tk n_c_333 (by decide)
    refine lv_aload_n hx hb dX10_mendedOf_20 rfl (lv_at hl 3 rfl) ?_
    refine lv_iload_n hx hb dX10_mendedOf_21 rfl (lv_at hl 4 rfl) ?_
    refine lv_iload hx hb dX10_mendedOf_22 (lv_at hl 0 rfl) ?_
    refine vp_callSi (W.runV (As := [.int a1, .int y_186]) (rest := []) ⟨hx, hb, hml, hown, hts⟩ (kX10_isLucky l dC dI o0 x_th mwo mim mhi mlu mtp x_td mfv x_sz x_at x_fr x_to x_va x_fk x_fp mfr mwt x_wt x_op x_jo mfg mpl x_dr mtm mfa mqu mmo mwy mwn mma mwi mnu mmv c_wo c_lu w_wo w_lu ln bs tk lw li a1 y_186 b_ln b_bs (rg_w b_tk (by decide) (by decide)) b_lw b_y_186 (hw0) (hw1) (hw2) (hw3) (hw4) (hwz)) (cwV 2 hts gX10_mendedOf__X10_isLucky_V316 rfl rfl rfl hd_yX10_isLucky ⟨lel 1 1 rfl, lel 22 26 rfl⟩) ⟨pw_fb, rcv_X10 hK hP (q0 := 0) rfl, (pw_use hP hK hN [0, 1, 2] rfl [0, 1] rfl)⟩ rfl rfl hl.1 rfl (lv_room (Nat.le_of_ble_eq_true rfl)) dX10_mendedOf_24 ⟨lel 0 0 rfl, lel 0 0 rfl⟩) (fun r_334 h_r_334 => ?_)
    have b_r_334 := h_r_334
    have b_r_334 : (0 : Int) ≤ r_334.toInt ∧ r_334.toInt ≤ 1 := b_r_334
    refine cutP (σ := Int32 × Int32) (pc2 := 57) (st2 := fun v => []) (cells2 := 0) (slots2 := 0) (fun v ls => ((-1 : Int) ≤ v.2.toInt ∧ v.2.toInt ≤ 19999) ∧ lv_has ls 6 [(5, .int y_186), (4, .int v.1), (3, .int v.2), (0, .ref o0), (1, .int a1), (2, .int a2)]) (fun v ls hI => ?_) (fun hj_57_340 => ?_)
    ·
      obtain ⟨y_339, y_340⟩ := v
      obtain ⟨b_y_340, hl⟩ := hI
      have b_y_340 : (-1 : Int) ≤ y_340.toInt ∧ y_340.toInt ≤ 19999 := b_y_340
      have hl : lv_has ls 6 [(5, .int y_186), (4, .int y_339), (3, .int y_340), (0, .ref o0), (1, .int a1), (2, .int a2)] := hl
      obtain ⟨z_341, e_z_341⟩ : ∃ y : Int32, y = y_186 + 1 := ⟨_, rfl⟩
      refine lv_iinc (v := z_341) (lv' := [(5, .int z_341), (4, .int y_339), (3, .int y_340), (0, .ref o0), (1, .int a1), (2, .int a2)]) hx hb dX10_mendedOf_57 hl (k := 0) rfl (by rw [e_z_341]; rfl) (by decide) rfl (fun ls hl => ?_)
      obtain ⟨q_z_341, b_z_341⟩ := ti_add (lo := 1) (hi := 20000) e_z_341 rfl (by decide : (1 : Int32).toInt = 1) b_y_186 (by decide : (1 : Int) ≤ (1 : Int32).toInt ∧ (1 : Int32).toInt ≤ 1) (by decide)
      refine lv_goto (tgt := 9) hx hb dX10_mendedOf_60 (by decide) ?_
      exact ih_9_331 (z_341, y_339, y_340) _ ⟨(show (0 : Int) ≤ z_341.toInt ∧ z_341.toInt ≤ 20000 from (rg_w b_z_341 (by decide) (by decide))), (show (-1 : Int) ≤ y_340.toInt ∧ y_340.toInt ≤ 19999 from b_y_340), lv_sub hl [0, 1, 2, 3, 4, 5] rfl⟩ (show (20000 - z_341.toInt).toNat < (20000 - y_186.toInt).toNat by omega)
    ·
      refine lv_if_eq (tgt := 57) hx hb dX10_mendedOf_27 (by decide) (fun c_335 => ?_) (fun c_335 => ?_)
      ·
        have n_c_335 : (r_334.toInt : Int) = 0 := c_eq rfl (by decide) c_335
        have b_r_334 : (0 : Int) ≤ r_334.toInt ∧ r_334.toInt ≤ 0 := r_eq1 b_r_334 (by decide : (0 : Int) ≤ (0 : Int32).toInt ∧ (0 : Int32).toInt ≤ 0) n_c_335 (by decide)
        exact hj_57_340 (y_187, y_188) _ ⟨(show (-1 : Int) ≤ y_188.toInt ∧ y_188.toInt ≤ 19999 from b_y_188), lv_sub hl [0, 1, 2, 3, 4, 5] rfl⟩
      ·
        have n_c_335 : (r_334.toInt : Int) ≠ 0 := c_ne rfl (by decide) c_335
        have b_r_334 : (1 : Int) ≤ r_334.toInt ∧ r_334.toInt ≤ 1 := r_ne1 b_r_334 (by decide : (0 : Int) ≤ (0 : Int32).toInt ∧ (0 : Int32).toInt ≤ 0) n_c_335 (by decide)
        refine lv_aload_n hx hb dX10_mendedOf_30 rfl (lv_at hl 3 rfl) ?_
        refine lv_iload hx hb dX10_mendedOf_31 (lv_at hl 0 rfl) ?_
        refine lv_iload_n hx hb dX10_mendedOf_33 rfl (lv_at hl 5 rfl) ?_
        refine vp_callSi (W.runV (As := [.int y_186, .int a2]) (rest := []) ⟨hx, hb, hml, hown, hts⟩ (kX10_farFrom l dC dI o0 x_th mwo mim mhi mlu mtp x_td mfv x_sz x_at x_fr x_to x_va x_fk x_fp mfr mwt x_wt x_op x_jo mfg mpl x_dr mtm mfa mqu mmo mwy mwn mma mwi mnu mmv c_wo w_wo ln bs tk lw li y_186 a2 b_ln b_bs (rg_w b_tk (by decide) (by decide)) b_lw b_y_186 b_a2 (hw0) (hw1) (hw2) (hw3) (hw4) (hwz)) (cwV 2 hts gX10_mendedOf__X10_farFrom_V384 rfl rfl rfl hd_yX10_farFrom ⟨lel 1 1 rfl, lel 26 26 rfl⟩) ⟨pw_fb, rcv_X10 hK hP (q0 := 0) rfl, (pw_use hP hK hN [0, 1] rfl [0] rfl)⟩ rfl rfl hl.1 rfl (lv_room (Nat.le_of_ble_eq_true rfl)) dX10_mendedOf_34 ⟨lel 0 0 rfl, lel 0 0 rfl⟩) (fun r_342 h_r_342 => ?_)
        refine lv_iload hx hb dX10_mendedOf_37 (lv_at hl 1 rfl) ?_
        refine lv_icmp_lt (tgt := 45) hx hb dX10_mendedOf_39 (by decide) (fun c_343 => ?_) (fun c_343 => ?_)
        ·
          have n_c_343 : (r_342.toInt : Int) < y_187.toInt := c_lt rfl rfl c_343
          have b_r_342 : (-2147483648 : Int) ≤ r_342.toInt ∧ r_342.toInt ≤ 2147483646 := r_lt1 (ti_rng r_342) (ti_rng y_187) n_c_343 (by decide)
          have b_y_187 : (-2147483647 : Int) ≤ y_187.toInt ∧ y_187.toInt ≤ 2147483647 := r_lt2 (ti_rng r_342) (ti_rng y_187) n_c_343 (by decide)
          refine lv_iload hx hb dX10_mendedOf_45 (lv_at hl 0 rfl) ?_
          refine lv_istore_n (lv' := [(3, .int y_186), (5, .int y_186), (4, .int y_187), (0, .ref o0), (1, .int a1), (2, .int a2)]) hx hb dX10_mendedOf_47 rfl hl (by decide) rfl (fun ls hl => ?_)
          refine lv_aload_n hx hb dX10_mendedOf_48 rfl (lv_at hl 3 rfl) ?_
          refine lv_iload hx hb dX10_mendedOf_49 (lv_at hl 1 rfl) ?_
          refine lv_iload_n hx hb dX10_mendedOf_51 rfl (lv_at hl 5 rfl) ?_
          refine vp_callSi (W.runV (As := [.int y_186, .int a2]) (rest := []) ⟨hx, hb, hml, hown, hts⟩ (kX10_farFrom l dC dI o0 x_th mwo mim mhi mlu mtp x_td mfv x_sz x_at x_fr x_to x_va x_fk x_fp mfr mwt x_wt x_op x_jo mfg mpl x_dr mtm mfa mqu mmo mwy mwn mma mwi mnu mmv c_wo w_wo ln bs tk lw li y_186 a2 b_ln b_bs (rg_w b_tk (by decide) (by decide)) b_lw b_y_186 b_a2 (hw0) (hw1) (hw2) (hw3) (hw4) (hwz)) (cwV 2 hts gX10_mendedOf__X10_farFrom_V384 rfl rfl rfl hd_yX10_farFrom ⟨lel 1 1 rfl, lel 26 26 rfl⟩) ⟨pw_fb, rcv_X10 hK hP (q0 := 0) rfl, (pw_use hP hK hN [0, 1] rfl [0] rfl)⟩ rfl rfl hl.1 rfl (lv_room (Nat.le_of_ble_eq_true rfl)) dX10_mendedOf_52 ⟨lel 0 0 rfl, lel 0 0 rfl⟩) (fun r_344 h_r_344 => ?_)
          refine lv_istore (lv' := [(4, .int r_344), (3, .int y_186), (5, .int y_186), (0, .ref o0), (1, .int a1), (2, .int a2)]) hx hb dX10_mendedOf_55 hl (by decide) rfl (fun ls hl => ?_)
          exact hj_57_340 (r_344, y_186) _ ⟨(show (-1 : Int) ≤ y_186.toInt ∧ y_186.toInt ≤ 19999 from (rg_w b_y_186 (by decide) (by decide))), lv_sub hl [2, 0, 1, 3, 4, 5] rfl⟩
        ·
          have n_c_343 : (y_187.toInt : Int) ≤ r_342.toInt := c_nlt rfl rfl c_343
          refine lv_goto (tgt := 57) hx hb dX10_mendedOf_42 (by decide) ?_
          exact hj_57_340 (y_187, y_188) _ ⟨(show (-1 : Int) ≤ y_188.toInt ∧ y_188.toInt ≤ 19999 from b_y_188), lv_sub hl [0, 1, 2, 3, 4, 5] rfl⟩
theorem dX10_mend_0 : decode cX10_mend 0 = .ok (.aload_n 0, 1) := by decide +kernel
theorem dX10_mend_1 : decode cX10_mend 1 = .ok (.iload_n 1, 1) := by decide +kernel
theorem dX10_mend_2 : decode cX10_mend 2 = .ok (.iload_n 2, 1) := by decide +kernel
theorem dX10_mend_3 : decode cX10_mend 3 = .ok (.invokevirtual 313, 3) := by decide +kernel
theorem dX10_mend_6 : decode cX10_mend 6 = .ok (.ifCond .ne 6, 3) := by decide +kernel
theorem dX10_mend_9 : decode cX10_mend 9 = .ok (.bipush (-2), 2) := by decide +kernel
theorem dX10_mend_11 : decode cX10_mend 11 = .ok (.ireturn, 1) := by decide +kernel
theorem dX10_mend_12 : decode cX10_mend 12 = .ok (.aload_n 0, 1) := by decide +kernel
theorem dX10_mend_13 : decode cX10_mend 13 = .ok (.iload_n 1, 1) := by decide +kernel
theorem dX10_mend_14 : decode cX10_mend 14 = .ok (.iload_n 2, 1) := by decide +kernel
theorem dX10_mend_15 : decode cX10_mend 15 = .ok (.invokevirtual 387, 3) := by decide +kernel
theorem dX10_mend_18 : decode cX10_mend 18 = .ok (.istore_n 3, 1) := by decide +kernel
theorem dX10_mend_19 : decode cX10_mend 19 = .ok (.iload_n 3, 1) := by decide +kernel
theorem dX10_mend_20 : decode cX10_mend 20 = .ok (.iconst (-1), 1) := by decide +kernel
theorem dX10_mend_21 : decode cX10_mend 21 = .ok (.if_icmp .ne 7, 3) := by decide +kernel
theorem dX10_mend_24 : decode cX10_mend 24 = .ok (.iconst (-1), 1) := by decide +kernel
theorem dX10_mend_25 : decode cX10_mend 25 = .ok (.goto 9, 3) := by decide +kernel
theorem dX10_mend_28 : decode cX10_mend 28 = .ok (.aload_n 0, 1) := by decide +kernel
theorem dX10_mend_29 : decode cX10_mend 29 = .ok (.iload_n 3, 1) := by decide +kernel
theorem dX10_mend_30 : decode cX10_mend 30 = .ok (.iload_n 2, 1) := by decide +kernel
theorem dX10_mend_31 : decode cX10_mend 31 = .ok (.invokevirtual 384, 3) := by decide +kernel
theorem dX10_mend_34 : decode cX10_mend 34 = .ok (.ireturn, 1) := by decide +kernel
theorem hd_yX10_mend : yX10_mend.cls = RX10 ∧ yX10_mend.cls ≠ "java/lang/invoke/MethodHandle" ∧ yX10_mend.cls ≠ "java/lang/invoke/VarHandle" ∧ (parseMethodDescriptor yX10_mend.desc).map (fun d => d.parameters.length) = some 2 := by decide +kernel
def uX10_mend : List Cond := List.cons (.code yX10_mend cX10_mend 4 (some .int)) (HAppend.hAppend ([.methodLink RX10 313 yX10_isBoth, .instanceMethod yX10_isBoth, .selects RX10 yX10_isBoth yX10_isBoth, .initialized RX10, .methodLink RX10 387 yX10_mendedOf, .instanceMethod yX10_mendedOf, .selects RX10 yX10_mendedOf yX10_mendedOf, .methodLink RX10 384 yX10_farFrom, .instanceMethod yX10_farFrom, .selects RX10 yX10_farFrom yX10_farFrom] : List Cond) (HAppend.hAppend uX10_isBoth (HAppend.hAppend uX10_mendedOf uX10_farFrom)))
theorem guX10_mend : GU uX10_mend := gu_cons (gu_app (by decide +kernel) (gu_ap guX10_isBoth (gu_ap guX10_mendedOf guX10_farFrom)))
theorem gX10_mend__X10_isBoth_V313 : GoodIn uX10_mend (wsV RX10 313 RX10 yX10_isBoth uX10_isBoth) := gin_V (List.mem_of_getElem? (i := 1) rfl) (List.mem_of_getElem? (i := 2) rfl) (List.mem_of_getElem? (i := 3) rfl) (List.mem_of_getElem? (i := 4) rfl) (fun _ h => (List.mem_cons_of_mem _ (List.mem_append_right _ (List.mem_append_left _ h)))) guX10_isBoth
theorem gX10_mend__X10_mendedOf_V387 : GoodIn uX10_mend (wsV RX10 387 RX10 yX10_mendedOf uX10_mendedOf) := gin_V (List.mem_of_getElem? (i := 5) rfl) (List.mem_of_getElem? (i := 6) rfl) (List.mem_of_getElem? (i := 7) rfl) (List.mem_of_getElem? (i := 4) rfl) (fun _ h => (List.mem_cons_of_mem _ (List.mem_append_right _ (List.mem_append_right _ (List.mem_append_left _ h))))) guX10_mendedOf
theorem gX10_mend__X10_farFrom_V384 : GoodIn uX10_mend (wsV RX10 384 RX10 yX10_farFrom uX10_farFrom) := gin_V (List.mem_of_getElem? (i := 8) rfl) (List.mem_of_getElem? (i := 9) rfl) (List.mem_of_getElem? (i := 10) rfl) (List.mem_of_getElem? (i := 4) rfl) (fun _ h => (List.mem_cons_of_mem _ (List.mem_append_right _ (List.mem_append_right _ (List.mem_append_right _ h))))) guX10_farFrom
set_option maxHeartbeats 4000000 in
set_option maxRecDepth 100000 in
theorem kX10_mend (l : Launch) (dC : Nat → ClassId) (dI : Nat → Nat → Nat) (o0 : Nat) (x_th : Int32) (mwo : Nat) (mim : Nat) (mhi : Nat) (mlu : Nat) (mtp : Nat) (x_td : Int32) (mfv : Nat) (x_sz : Int32) (x_at : Int32) (x_fr : Int32) (x_to : Int32) (x_va : Int32) (x_fk : Int32) (x_fp : Int32) (mfr : Nat) (mwt : Nat) (x_wt : Int32) (x_op : Int32) (x_jo : Int32) (mfg : Nat) (mpl : Nat) (x_dr : Int64) (mtm : Nat) (mfa : Nat) (mqu : Nat) (mmo : Nat) (mwy : Nat) (mwn : Nat) (mma : Nat) (mwi : Nat) (mnu : Nat) (mmv : Nat) (c_wo : ClassId) (c_lu : ClassId) (w_wo : Nat → Int32) (w_lu : Nat → Int32) (ln : Int32) (bs : Int32) (tk : Int32) (lw : Int32) (li : Int32) (a1 : Int32) (a2 : Int32) (b_ln : (0 : Int) ≤ ln.toInt ∧ ln.toInt ≤ 12) (b_bs : (0 : Int) ≤ bs.toInt ∧ bs.toInt ≤ 16) (b_tk : (0 : Int) ≤ tk.toInt ∧ tk.toInt ≤ 20000) (b_lw : (0 : Int) ≤ lw.toInt ∧ lw.toInt ≤ 9) (hw0 : w_wo 0 = ln) (hw1 : w_wo 1 = bs) (hw2 : w_wo 2 = tk) (hw3 : w_wo 3 = lw) (hw4 : w_wo 4 = li) (hwz : (ln.toInt = 0 ∧ bs.toInt = 0 ∧ tk.toInt = 0 ∧ lw.toInt = 0) ∨ (1 ≤ ln.toInt ∧ 2 ≤ bs.toInt ∧ 1 ≤ tk.toInt)) : Met l yX10_mend uX10_mend ({ frames := 3, cells := 0, slots := 0, locals := 69 }) (va_Pc [.ref o0, .int a1, .int a2] (pw (dC, dI) vwCl [(o0, .inr (8, [.int x_th, .ref mwo, .ref mim, .ref mhi, .ref mlu, .ref mtp, .int x_td, .ref mfv, .int x_sz, .int x_at, .int x_fr, .int x_to, .int x_va, .int x_fk, .int x_fp, .ref mfr, .ref mwt, .int x_wt, .int x_op, .int x_jo, .ref mfg, .ref mpl, .long x_dr, .ref mtm, .ref mfa, .ref mqu, .ref mmo, .ref mwy, .ref mwn, .ref mma, .ref mwi, .ref mnu, .ref mmv])), (mwo, .inl (c_wo, 1875, .inl w_wo)), (mlu, .inl (c_lu, 20000, .inl w_lu))] [(c_wo, .int), (c_lu, .int)])) (vp_Si (fun r => True)) 0 0 (fun _ => False) := by
  refine Met.ofW (cc := cX10_mend) (maxL := 4) (ret := (some .int)) pn_X10 rfl ?_
  intro p e s m args below meth c s₁ B hml hv
  obtain ⟨rfl, hP, hK, hN⟩ := hv
  have hx := B.exec
  have hb := B.bytes
  have hr := B.returns
  have hts := atoms_spec (ws := uX10_mend) B.pre
  have hown : s.vm.findClass RX10 = some m.cls := hown_of B.named rfl
  have hlocks := B.notSynchronized
  have hl := lv_entry ([.ref o0, .int a1, .int a2]) (n := 4) (Nat.le_of_ble_eq_true rfl)
  rw [lg_entry_eq]
  generalize (lg_sl ([.ref o0, .int a1, .int a2]) ++ List.replicate (4 - (lg_sl ([.ref o0, .int a1, .int a2])).length) Slot.unset).toArray = ls at hl ⊢
  have hl : lv_has ls 4 [(0, .ref o0), (1, .int a1), (2, .int a2)] := hl
  refine lv_aload_n hx hb dX10_mend_0 rfl (lv_at hl 0 rfl) ?_
  refine lv_iload_n hx hb dX10_mend_1 rfl (lv_at hl 1 rfl) ?_
  refine lv_iload_n hx hb dX10_mend_2 rfl (lv_at hl 2 rfl) ?_
  refine vp_callSi (W.runV (As := [.int a1, .int a2]) (rest := []) ⟨hx, hb, hml, hown, hts⟩ (kX10_isBoth l dC dI o0 x_th mwo mim mhi mlu mtp x_td mfv x_sz x_at x_fr x_to x_va x_fk x_fp mfr mwt x_wt x_op x_jo mfg mpl x_dr mtm mfa mqu mmo mwy mwn mma mwi mnu mmv c_wo w_wo ln bs tk lw li a1 a2 b_ln b_bs b_tk b_lw (hw0) (hw1) (hw2) (hw3) (hw4) (hwz)) (cwV 2 hts gX10_mend__X10_isBoth_V313 rfl rfl rfl hd_yX10_isBoth ⟨lel 3 3 rfl, lel 69 69 rfl⟩) ⟨pw_fb, rcv_X10 hK hP (q0 := 0) rfl, (pw_use hP hK hN [0, 1] rfl [0] rfl)⟩ rfl rfl hl.1 rfl (lv_room (Nat.le_of_ble_eq_true rfl)) dX10_mend_3 ⟨lel 0 0 rfl, lel 0 0 rfl⟩) (fun r_7 h_r_7 => ?_)
  obtain ⟨b_r_7, nz_r_7⟩ := h_r_7
  have b_r_7 : (0 : Int) ≤ r_7.toInt ∧ r_7.toInt ≤ 1 := b_r_7
  refine lv_if_ne (tgt := 12) hx hb dX10_mend_6 (by decide) (fun c_8 => ?_) (fun c_8 => ?_)
  ·
    have n_c_8 : (r_7.toInt : Int) ≠ 0 := c_ne rfl (by decide) c_8
    have b_r_7 : (1 : Int) ≤ r_7.toInt ∧ r_7.toInt ≤ 1 := r_ne1 b_r_7 (by decide : (0 : Int) ≤ (0 : Int32).toInt ∧ (0 : Int32).toInt ≤ 0) n_c_8 (by decide)
    obtain ⟨b_a1, b_a2, g_9⟩ := nz_r_7 c_8
    refine lv_aload_n hx hb dX10_mend_12 rfl (lv_at hl 0 rfl) ?_
    refine lv_iload_n hx hb dX10_mend_13 rfl (lv_at hl 1 rfl) ?_
    refine lv_iload_n hx hb dX10_mend_14 rfl (lv_at hl 2 rfl) ?_
    refine vp_callSi (W.runV (As := [.int a1, .int a2]) (rest := []) ⟨hx, hb, hml, hown, hts⟩ (kX10_mendedOf l dC dI o0 x_th mwo mim mhi mlu mtp x_td mfv x_sz x_at x_fr x_to x_va x_fk x_fp mfr mwt x_wt x_op x_jo mfg mpl x_dr mtm mfa mqu mmo mwy mwn mma mwi mnu mmv c_wo c_lu w_wo w_lu ln bs tk lw li a1 a2 b_ln b_bs b_tk b_lw b_a2 (hw0) (hw1) (hw2) (hw3) (hw4) (hwz)) (cwV 2 hts gX10_mend__X10_mendedOf_V387 rfl rfl rfl hd_yX10_mendedOf ⟨lel 2 3 rfl, lel 51 69 rfl⟩) ⟨pw_fb, rcv_X10 hK hP (q0 := 0) rfl, (pw_use hP hK hN [0, 1, 2] rfl [0, 1] rfl)⟩ rfl rfl hl.1 rfl (lv_room (Nat.le_of_ble_eq_true rfl)) dX10_mend_15 ⟨lel 0 0 rfl, lel 0 0 rfl⟩) (fun r_10 h_r_10 => ?_)
    have b_r_10 := h_r_10
    have b_r_10 : (-1 : Int) ≤ r_10.toInt ∧ r_10.toInt ≤ 19999 := b_r_10
    refine lv_istore_n (lv' := [(3, .int r_10), (0, .ref o0), (1, .int a1), (2, .int a2)]) hx hb dX10_mend_18 rfl hl (by decide) rfl (fun ls hl => ?_)
    refine lv_iload_n hx hb dX10_mend_19 rfl (lv_at hl 0 rfl) ?_
    refine lv_iconst (v := (-1)) hx hb dX10_mend_20 (by decide) ?_
    refine lv_icmp_ne (tgt := 28) hx hb dX10_mend_21 (by decide) (fun c_11 => ?_) (fun c_11 => ?_)
    ·
      have n_c_11 : (r_10.toInt : Int) ≠ (-1) := c_ne rfl (by decide) c_11
      have b_r_10 : (0 : Int) ≤ r_10.toInt ∧ r_10.toInt ≤ 19999 := r_ne1 b_r_10 (by decide : (-1 : Int) ≤ ((-1) : Int32).toInt ∧ ((-1) : Int32).toInt ≤ -1) n_c_11 (by decide)
      refine lv_aload_n hx hb dX10_mend_28 rfl (lv_at hl 1 rfl) ?_
      refine lv_iload_n hx hb dX10_mend_29 rfl (lv_at hl 0 rfl) ?_
      refine lv_iload_n hx hb dX10_mend_30 rfl (lv_at hl 3 rfl) ?_
      refine vp_callSi (W.runV (As := [.int r_10, .int a2]) (rest := []) ⟨hx, hb, hml, hown, hts⟩ (kX10_farFrom l dC dI o0 x_th mwo mim mhi mlu mtp x_td mfv x_sz x_at x_fr x_to x_va x_fk x_fp mfr mwt x_wt x_op x_jo mfg mpl x_dr mtm mfa mqu mmo mwy mwn mma mwi mnu mmv c_wo w_wo ln bs tk lw li r_10 a2 b_ln b_bs b_tk b_lw b_r_10 b_a2 (hw0) (hw1) (hw2) (hw3) (hw4) (hwz)) (cwV 2 hts gX10_mend__X10_farFrom_V384 rfl rfl rfl hd_yX10_farFrom ⟨lel 1 3 rfl, lel 26 69 rfl⟩) ⟨pw_fb, rcv_X10 hK hP (q0 := 0) rfl, (pw_use hP hK hN [0, 1] rfl [0] rfl)⟩ rfl rfl hl.1 rfl (lv_room (Nat.le_of_ble_eq_true rfl)) dX10_mend_31 ⟨lel 0 0 rfl, lel 0 0 rfl⟩) (fun r_12 h_r_12 => ?_)
      exact W.iret (v := r_12) hx hb hr (fun t ht hW => ⟨r_12, rfl, trivial, ht⟩) t_nil dX10_mend_34
    ·
      have n_c_11 : (r_10.toInt : Int) = (-1) := c_eq rfl (by decide) c_11
      have b_r_10 : (-1 : Int) ≤ r_10.toInt ∧ r_10.toInt ≤ -1 := r_eq1 b_r_10 (by decide : (-1 : Int) ≤ ((-1) : Int32).toInt ∧ ((-1) : Int32).toInt ≤ -1) n_c_11 (by decide)
      refine lv_iconst (v := (-1)) hx hb dX10_mend_24 (by decide) ?_
      refine lv_goto (tgt := 34) hx hb dX10_mend_25 (by decide) ?_
      exact W.iret (v := (-1)) hx hb hr (fun t ht hW => ⟨(-1), rfl, trivial, ht⟩) t_nil dX10_mend_34
  ·
    have n_c_8 : (r_7.toInt : Int) = 0 := c_eq rfl (by decide) c_8
    have b_r_7 : (0 : Int) ≤ r_7.toInt ∧ r_7.toInt ≤ 0 := r_eq1 b_r_7 (by decide : (0 : Int) ≤ (0 : Int32).toInt ∧ (0 : Int32).toInt ≤ 0) n_c_8 (by decide)
    refine lv_bipush (v := (-2)) hx hb dX10_mend_9 (by decide) ?_
    exact W.iret (v := (-2)) hx hb hr (fun t ht hW => ⟨(-2), rfl, trivial, ht⟩) t_nil dX10_mend_11
theorem dX10_mended_0 : decode cX10_mended 0 = .ok (.aload_n 0, 1) := by decide +kernel
theorem dX10_mended_1 : decode cX10_mended 1 = .ok (.iload_n 1, 1) := by decide +kernel
theorem dX10_mended_2 : decode cX10_mended 2 = .ok (.iload_n 2, 1) := by decide +kernel
theorem dX10_mended_3 : decode cX10_mended 3 = .ok (.invokevirtual 313, 3) := by decide +kernel
theorem dX10_mended_6 : decode cX10_mended 6 = .ok (.ifCond .eq 12, 3) := by decide +kernel
theorem dX10_mended_9 : decode cX10_mended 9 = .ok (.aload_n 0, 1) := by decide +kernel
theorem dX10_mended_10 : decode cX10_mended 10 = .ok (.iload_n 1, 1) := by decide +kernel
theorem dX10_mended_11 : decode cX10_mended 11 = .ok (.iload_n 2, 1) := by decide +kernel
theorem dX10_mended_12 : decode cX10_mended 12 = .ok (.invokevirtual 387, 3) := by decide +kernel
theorem dX10_mended_15 : decode cX10_mended 15 = .ok (.goto 5, 3) := by decide +kernel
theorem dX10_mended_18 : decode cX10_mended 18 = .ok (.bipush (-2), 2) := by decide +kernel
theorem dX10_mended_20 : decode cX10_mended 20 = .ok (.ireturn, 1) := by decide +kernel
theorem hd_yX10_mended : yX10_mended.cls = RX10 ∧ yX10_mended.cls ≠ "java/lang/invoke/MethodHandle" ∧ yX10_mended.cls ≠ "java/lang/invoke/VarHandle" ∧ (parseMethodDescriptor yX10_mended.desc).map (fun d => d.parameters.length) = some 2 := by decide +kernel
def uX10_mended : List Cond := List.cons (.code yX10_mended cX10_mended 3 (some .int)) (HAppend.hAppend ([.methodLink RX10 313 yX10_isBoth, .instanceMethod yX10_isBoth, .selects RX10 yX10_isBoth yX10_isBoth, .initialized RX10, .methodLink RX10 387 yX10_mendedOf, .instanceMethod yX10_mendedOf, .selects RX10 yX10_mendedOf yX10_mendedOf] : List Cond) (HAppend.hAppend uX10_isBoth uX10_mendedOf))
theorem guX10_mended : GU uX10_mended := gu_cons (gu_app (by decide +kernel) (gu_ap guX10_isBoth guX10_mendedOf))
theorem gX10_mended__X10_isBoth_V313 : GoodIn uX10_mended (wsV RX10 313 RX10 yX10_isBoth uX10_isBoth) := gin_V (List.mem_of_getElem? (i := 1) rfl) (List.mem_of_getElem? (i := 2) rfl) (List.mem_of_getElem? (i := 3) rfl) (List.mem_of_getElem? (i := 4) rfl) (fun _ h => (List.mem_cons_of_mem _ (List.mem_append_right _ (List.mem_append_left _ h)))) guX10_isBoth
theorem gX10_mended__X10_mendedOf_V387 : GoodIn uX10_mended (wsV RX10 387 RX10 yX10_mendedOf uX10_mendedOf) := gin_V (List.mem_of_getElem? (i := 5) rfl) (List.mem_of_getElem? (i := 6) rfl) (List.mem_of_getElem? (i := 7) rfl) (List.mem_of_getElem? (i := 4) rfl) (fun _ h => (List.mem_cons_of_mem _ (List.mem_append_right _ (List.mem_append_right _ h)))) guX10_mendedOf
set_option maxHeartbeats 4000000 in
set_option maxRecDepth 100000 in
theorem kX10_mended (l : Launch) (dC : Nat → ClassId) (dI : Nat → Nat → Nat) (o0 : Nat) (x_th : Int32) (mwo : Nat) (mim : Nat) (mhi : Nat) (mlu : Nat) (mtp : Nat) (x_td : Int32) (mfv : Nat) (x_sz : Int32) (x_at : Int32) (x_fr : Int32) (x_to : Int32) (x_va : Int32) (x_fk : Int32) (x_fp : Int32) (mfr : Nat) (mwt : Nat) (x_wt : Int32) (x_op : Int32) (x_jo : Int32) (mfg : Nat) (mpl : Nat) (x_dr : Int64) (mtm : Nat) (mfa : Nat) (mqu : Nat) (mmo : Nat) (mwy : Nat) (mwn : Nat) (mma : Nat) (mwi : Nat) (mnu : Nat) (mmv : Nat) (c_wo : ClassId) (c_lu : ClassId) (w_wo : Nat → Int32) (w_lu : Nat → Int32) (ln : Int32) (bs : Int32) (tk : Int32) (lw : Int32) (li : Int32) (a1 : Int32) (a2 : Int32) (b_ln : (0 : Int) ≤ ln.toInt ∧ ln.toInt ≤ 12) (b_bs : (0 : Int) ≤ bs.toInt ∧ bs.toInt ≤ 16) (b_tk : (0 : Int) ≤ tk.toInt ∧ tk.toInt ≤ 20000) (b_lw : (0 : Int) ≤ lw.toInt ∧ lw.toInt ≤ 9) (hw0 : w_wo 0 = ln) (hw1 : w_wo 1 = bs) (hw2 : w_wo 2 = tk) (hw3 : w_wo 3 = lw) (hw4 : w_wo 4 = li) (hwz : (ln.toInt = 0 ∧ bs.toInt = 0 ∧ tk.toInt = 0 ∧ lw.toInt = 0) ∨ (1 ≤ ln.toInt ∧ 2 ≤ bs.toInt ∧ 1 ≤ tk.toInt)) : Met l yX10_mended uX10_mended ({ frames := 3, cells := 0, slots := 0, locals := 69 }) (va_Pc [.ref o0, .int a1, .int a2] (pw (dC, dI) vwCl [(o0, .inr (8, [.int x_th, .ref mwo, .ref mim, .ref mhi, .ref mlu, .ref mtp, .int x_td, .ref mfv, .int x_sz, .int x_at, .int x_fr, .int x_to, .int x_va, .int x_fk, .int x_fp, .ref mfr, .ref mwt, .int x_wt, .int x_op, .int x_jo, .ref mfg, .ref mpl, .long x_dr, .ref mtm, .ref mfa, .ref mqu, .ref mmo, .ref mwy, .ref mwn, .ref mma, .ref mwi, .ref mnu, .ref mmv])), (mwo, .inl (c_wo, 1875, .inl w_wo)), (mlu, .inl (c_lu, 20000, .inl w_lu))] [(c_wo, .int), (c_lu, .int)])) (vp_Si (fun r => ((-2 : Int) ≤ r.toInt ∧ r.toInt ≤ 19999))) 0 0 (fun _ => False) := by
  refine Met.ofW (cc := cX10_mended) (maxL := 3) (ret := (some .int)) pn_X10 rfl ?_
  intro p e s m args below meth c s₁ B hml hv
  obtain ⟨rfl, hP, hK, hN⟩ := hv
  have hx := B.exec
  have hb := B.bytes
  have hr := B.returns
  have hts := atoms_spec (ws := uX10_mended) B.pre
  have hown : s.vm.findClass RX10 = some m.cls := hown_of B.named rfl
  have hlocks := B.notSynchronized
  have hl := lv_entry ([.ref o0, .int a1, .int a2]) (n := 3) (Nat.le_of_ble_eq_true rfl)
  rw [lg_entry_eq]
  generalize (lg_sl ([.ref o0, .int a1, .int a2]) ++ List.replicate (3 - (lg_sl ([.ref o0, .int a1, .int a2])).length) Slot.unset).toArray = ls at hl ⊢
  have hl : lv_has ls 3 [(0, .ref o0), (1, .int a1), (2, .int a2)] := hl
  refine lv_aload_n hx hb dX10_mended_0 rfl (lv_at hl 0 rfl) ?_
  refine lv_iload_n hx hb dX10_mended_1 rfl (lv_at hl 1 rfl) ?_
  refine lv_iload_n hx hb dX10_mended_2 rfl (lv_at hl 2 rfl) ?_
  refine vp_callSi (W.runV (As := [.int a1, .int a2]) (rest := []) ⟨hx, hb, hml, hown, hts⟩ (kX10_isBoth l dC dI o0 x_th mwo mim mhi mlu mtp x_td mfv x_sz x_at x_fr x_to x_va x_fk x_fp mfr mwt x_wt x_op x_jo mfg mpl x_dr mtm mfa mqu mmo mwy mwn mma mwi mnu mmv c_wo w_wo ln bs tk lw li a1 a2 b_ln b_bs b_tk b_lw (hw0) (hw1) (hw2) (hw3) (hw4) (hwz)) (cwV 2 hts gX10_mended__X10_isBoth_V313 rfl rfl rfl hd_yX10_isBoth ⟨lel 3 3 rfl, lel 69 69 rfl⟩) ⟨pw_fb, rcv_X10 hK hP (q0 := 0) rfl, (pw_use hP hK hN [0, 1] rfl [0] rfl)⟩ rfl rfl hl.1 rfl (lv_room (Nat.le_of_ble_eq_true rfl)) dX10_mended_3 ⟨lel 0 0 rfl, lel 0 0 rfl⟩) (fun r_5 h_r_5 => ?_)
  obtain ⟨b_r_5, nz_r_5⟩ := h_r_5
  have b_r_5 : (0 : Int) ≤ r_5.toInt ∧ r_5.toInt ≤ 1 := b_r_5
  refine lv_if_eq (tgt := 18) hx hb dX10_mended_6 (by decide) (fun c_6 => ?_) (fun c_6 => ?_)
  ·
    have n_c_6 : (r_5.toInt : Int) = 0 := c_eq rfl (by decide) c_6
    have b_r_5 : (0 : Int) ≤ r_5.toInt ∧ r_5.toInt ≤ 0 := r_eq1 b_r_5 (by decide : (0 : Int) ≤ (0 : Int32).toInt ∧ (0 : Int32).toInt ≤ 0) n_c_6 (by decide)
    refine lv_bipush (v := (-2)) hx hb dX10_mended_18 (by decide) ?_
    exact W.iret (v := (-2)) hx hb hr (fun t ht hW => ⟨(-2), rfl, (rg_w (by decide : (-2 : Int) ≤ ((-2) : Int32).toInt ∧ ((-2) : Int32).toInt ≤ -2) (by decide) (by decide)), ht⟩) t_nil dX10_mended_20
  ·
    have n_c_6 : (r_5.toInt : Int) ≠ 0 := c_ne rfl (by decide) c_6
    have b_r_5 : (1 : Int) ≤ r_5.toInt ∧ r_5.toInt ≤ 1 := r_ne1 b_r_5 (by decide : (0 : Int) ≤ (0 : Int32).toInt ∧ (0 : Int32).toInt ≤ 0) n_c_6 (by decide)
    obtain ⟨b_a1, b_a2, g_7⟩ := nz_r_5 c_6
    refine lv_aload_n hx hb dX10_mended_9 rfl (lv_at hl 0 rfl) ?_
    refine lv_iload_n hx hb dX10_mended_10 rfl (lv_at hl 1 rfl) ?_
    refine lv_iload_n hx hb dX10_mended_11 rfl (lv_at hl 2 rfl) ?_
    refine vp_callSi (W.runV (As := [.int a1, .int a2]) (rest := []) ⟨hx, hb, hml, hown, hts⟩ (kX10_mendedOf l dC dI o0 x_th mwo mim mhi mlu mtp x_td mfv x_sz x_at x_fr x_to x_va x_fk x_fp mfr mwt x_wt x_op x_jo mfg mpl x_dr mtm mfa mqu mmo mwy mwn mma mwi mnu mmv c_wo c_lu w_wo w_lu ln bs tk lw li a1 a2 b_ln b_bs b_tk b_lw b_a2 (hw0) (hw1) (hw2) (hw3) (hw4) (hwz)) (cwV 2 hts gX10_mended__X10_mendedOf_V387 rfl rfl rfl hd_yX10_mendedOf ⟨lel 2 3 rfl, lel 51 69 rfl⟩) ⟨pw_fb, rcv_X10 hK hP (q0 := 0) rfl, (pw_use hP hK hN [0, 1, 2] rfl [0, 1] rfl)⟩ rfl rfl hl.1 rfl (lv_room (Nat.le_of_ble_eq_true rfl)) dX10_mended_12 ⟨lel 0 0 rfl, lel 0 0 rfl⟩) (fun r_8 h_r_8 => ?_)
    have b_r_8 := h_r_8
    have b_r_8 : (-1 : Int) ≤ r_8.toInt ∧ r_8.toInt ≤ 19999 := b_r_8
    refine lv_goto (tgt := 20) hx hb dX10_mended_15 (by decide) ?_
    exact W.iret (v := r_8) hx hb hr (fun t ht hW => ⟨r_8, rfl, (rg_w b_r_8 (by decide) (by decide)), ht⟩) t_nil dX10_mended_20
theorem dX10_nearest_0 : decode cX10_nearest 0 = .ok (.aload_n 0, 1) := by decide +kernel
theorem dX10_nearest_1 : decode cX10_nearest 1 = .ok (.iload_n 1, 1) := by decide +kernel
theorem dX10_nearest_2 : decode cX10_nearest 2 = .ok (.iload_n 2, 1) := by decide +kernel
theorem dX10_nearest_3 : decode cX10_nearest 3 = .ok (.invokevirtual 313, 3) := by decide +kernel
theorem dX10_nearest_6 : decode cX10_nearest 6 = .ok (.ifCond .ne 6, 3) := by decide +kernel
theorem dX10_nearest_9 : decode cX10_nearest 9 = .ok (.bipush (-2), 2) := by decide +kernel
theorem dX10_nearest_11 : decode cX10_nearest 11 = .ok (.ireturn, 1) := by decide +kernel
theorem dX10_nearest_12 : decode cX10_nearest 12 = .ok (.aload_n 0, 1) := by decide +kernel
theorem dX10_nearest_13 : decode cX10_nearest 13 = .ok (.iload_n 1, 1) := by decide +kernel
theorem dX10_nearest_14 : decode cX10_nearest 14 = .ok (.iload_n 2, 1) := by decide +kernel
theorem dX10_nearest_15 : decode cX10_nearest 15 = .ok (.invokevirtual 328, 3) := by decide +kernel
theorem dX10_nearest_18 : decode cX10_nearest 18 = .ok (.istore_n 3, 1) := by decide +kernel
theorem dX10_nearest_19 : decode cX10_nearest 19 = .ok (.aload_n 0, 1) := by decide +kernel
theorem dX10_nearest_20 : decode cX10_nearest 20 = .ok (.iload_n 1, 1) := by decide +kernel
theorem dX10_nearest_21 : decode cX10_nearest 21 = .ok (.iload_n 2, 1) := by decide +kernel
theorem dX10_nearest_22 : decode cX10_nearest 22 = .ok (.invokevirtual 325, 3) := by decide +kernel
theorem dX10_nearest_25 : decode cX10_nearest 25 = .ok (.istore 4, 2) := by decide +kernel
theorem dX10_nearest_27 : decode cX10_nearest 27 = .ok (.iload_n 3, 1) := by decide +kernel
theorem dX10_nearest_28 : decode cX10_nearest 28 = .ok (.iconst (-1), 1) := by decide +kernel
theorem dX10_nearest_29 : decode cX10_nearest 29 = .ok (.if_icmp .ne 8, 3) := by decide +kernel
theorem dX10_nearest_32 : decode cX10_nearest 32 = .ok (.iload 4, 2) := by decide +kernel
theorem dX10_nearest_34 : decode cX10_nearest 34 = .ok (.goto 25, 3) := by decide +kernel
theorem dX10_nearest_37 : decode cX10_nearest 37 = .ok (.iload 4, 2) := by decide +kernel
theorem dX10_nearest_39 : decode cX10_nearest 39 = .ok (.iconst (-1), 1) := by decide +kernel
theorem dX10_nearest_40 : decode cX10_nearest 40 = .ok (.if_icmp .eq 13, 3) := by decide +kernel
theorem dX10_nearest_43 : decode cX10_nearest 43 = .ok (.iload_n 2, 1) := by decide +kernel
theorem dX10_nearest_44 : decode cX10_nearest 44 = .ok (.iload_n 3, 1) := by decide +kernel
theorem dX10_nearest_45 : decode cX10_nearest 45 = .ok (.isub, 1) := by decide +kernel
theorem dX10_nearest_46 : decode cX10_nearest 46 = .ok (.iload 4, 2) := by decide +kernel
theorem dX10_nearest_48 : decode cX10_nearest 48 = .ok (.iload_n 2, 1) := by decide +kernel
theorem dX10_nearest_49 : decode cX10_nearest 49 = .ok (.isub, 1) := by decide +kernel
theorem dX10_nearest_50 : decode cX10_nearest 50 = .ok (.if_icmp .gt 7, 3) := by decide +kernel
theorem dX10_nearest_53 : decode cX10_nearest 53 = .ok (.iload_n 3, 1) := by decide +kernel
theorem dX10_nearest_54 : decode cX10_nearest 54 = .ok (.goto 5, 3) := by decide +kernel
theorem dX10_nearest_57 : decode cX10_nearest 57 = .ok (.iload 4, 2) := by decide +kernel
theorem dX10_nearest_59 : decode cX10_nearest 59 = .ok (.ireturn, 1) := by decide +kernel
theorem hd_yX10_nearest : yX10_nearest.cls = RX10 ∧ yX10_nearest.cls ≠ "java/lang/invoke/MethodHandle" ∧ yX10_nearest.cls ≠ "java/lang/invoke/VarHandle" ∧ (parseMethodDescriptor yX10_nearest.desc).map (fun d => d.parameters.length) = some 2 := by decide +kernel
def uX10_nearest : List Cond := List.cons (.code yX10_nearest cX10_nearest 5 (some .int)) (HAppend.hAppend ([.methodLink RX10 313 yX10_isBoth, .instanceMethod yX10_isBoth, .selects RX10 yX10_isBoth yX10_isBoth, .initialized RX10, .methodLink RX10 328 yX10_lastOf, .instanceMethod yX10_lastOf, .selects RX10 yX10_lastOf yX10_lastOf, .methodLink RX10 325 yX10_nextOf, .instanceMethod yX10_nextOf, .selects RX10 yX10_nextOf yX10_nextOf] : List Cond) (HAppend.hAppend uX10_isBoth (HAppend.hAppend uX10_lastOf uX10_nextOf)))
theorem guX10_nearest : GU uX10_nearest := gu_cons (gu_app (by decide +kernel) (gu_ap guX10_isBoth (gu_ap guX10_lastOf guX10_nextOf)))
theorem gX10_nearest__X10_isBoth_V313 : GoodIn uX10_nearest (wsV RX10 313 RX10 yX10_isBoth uX10_isBoth) := gin_V (List.mem_of_getElem? (i := 1) rfl) (List.mem_of_getElem? (i := 2) rfl) (List.mem_of_getElem? (i := 3) rfl) (List.mem_of_getElem? (i := 4) rfl) (fun _ h => (List.mem_cons_of_mem _ (List.mem_append_right _ (List.mem_append_left _ h)))) guX10_isBoth
theorem gX10_nearest__X10_lastOf_V328 : GoodIn uX10_nearest (wsV RX10 328 RX10 yX10_lastOf uX10_lastOf) := gin_V (List.mem_of_getElem? (i := 5) rfl) (List.mem_of_getElem? (i := 6) rfl) (List.mem_of_getElem? (i := 7) rfl) (List.mem_of_getElem? (i := 4) rfl) (fun _ h => (List.mem_cons_of_mem _ (List.mem_append_right _ (List.mem_append_right _ (List.mem_append_left _ h))))) guX10_lastOf
theorem gX10_nearest__X10_nextOf_V325 : GoodIn uX10_nearest (wsV RX10 325 RX10 yX10_nextOf uX10_nextOf) := gin_V (List.mem_of_getElem? (i := 8) rfl) (List.mem_of_getElem? (i := 9) rfl) (List.mem_of_getElem? (i := 10) rfl) (List.mem_of_getElem? (i := 4) rfl) (fun _ h => (List.mem_cons_of_mem _ (List.mem_append_right _ (List.mem_append_right _ (List.mem_append_right _ h))))) guX10_nextOf
set_option maxHeartbeats 4000000 in
set_option maxRecDepth 100000 in
theorem kX10_nearest (l : Launch) (dC : Nat → ClassId) (dI : Nat → Nat → Nat) (o0 : Nat) (x_th : Int32) (mwo : Nat) (mim : Nat) (mhi : Nat) (mlu : Nat) (mtp : Nat) (x_td : Int32) (mfv : Nat) (x_sz : Int32) (x_at : Int32) (x_fr : Int32) (x_to : Int32) (x_va : Int32) (x_fk : Int32) (x_fp : Int32) (mfr : Nat) (mwt : Nat) (x_wt : Int32) (x_op : Int32) (x_jo : Int32) (mfg : Nat) (mpl : Nat) (x_dr : Int64) (mtm : Nat) (mfa : Nat) (mqu : Nat) (mmo : Nat) (mwy : Nat) (mwn : Nat) (mma : Nat) (mwi : Nat) (mnu : Nat) (mmv : Nat) (c_wo : ClassId) (c_lu : ClassId) (w_wo : Nat → Int32) (w_lu : Nat → Int32) (ln : Int32) (bs : Int32) (tk : Int32) (lw : Int32) (li : Int32) (a1 : Int32) (a2 : Int32) (b_ln : (0 : Int) ≤ ln.toInt ∧ ln.toInt ≤ 12) (b_bs : (0 : Int) ≤ bs.toInt ∧ bs.toInt ≤ 16) (b_tk : (0 : Int) ≤ tk.toInt ∧ tk.toInt ≤ 20000) (b_lw : (0 : Int) ≤ lw.toInt ∧ lw.toInt ≤ 9) (hw0 : w_wo 0 = ln) (hw1 : w_wo 1 = bs) (hw2 : w_wo 2 = tk) (hw3 : w_wo 3 = lw) (hw4 : w_wo 4 = li) (hwz : (ln.toInt = 0 ∧ bs.toInt = 0 ∧ tk.toInt = 0 ∧ lw.toInt = 0) ∨ (1 ≤ ln.toInt ∧ 2 ≤ bs.toInt ∧ 1 ≤ tk.toInt)) : Met l yX10_nearest uX10_nearest ({ frames := 3, cells := 0, slots := 0, locals := 69 }) (va_Pc [.ref o0, .int a1, .int a2] (pw (dC, dI) vwCl [(o0, .inr (8, [.int x_th, .ref mwo, .ref mim, .ref mhi, .ref mlu, .ref mtp, .int x_td, .ref mfv, .int x_sz, .int x_at, .int x_fr, .int x_to, .int x_va, .int x_fk, .int x_fp, .ref mfr, .ref mwt, .int x_wt, .int x_op, .int x_jo, .ref mfg, .ref mpl, .long x_dr, .ref mtm, .ref mfa, .ref mqu, .ref mmo, .ref mwy, .ref mwn, .ref mma, .ref mwi, .ref mnu, .ref mmv])), (mwo, .inl (c_wo, 1875, .inl w_wo)), (mlu, .inl (c_lu, 20000, .inl w_lu))] [(c_wo, .int), (c_lu, .int)])) (vp_Si (fun r => ((-2 : Int) ≤ r.toInt ∧ r.toInt ≤ 19999))) 0 0 (fun _ => False) := by
  refine Met.ofW (cc := cX10_nearest) (maxL := 5) (ret := (some .int)) pn_X10 rfl ?_
  intro p e s m args below meth c s₁ B hml hv
  obtain ⟨rfl, hP, hK, hN⟩ := hv
  have hx := B.exec
  have hb := B.bytes
  have hr := B.returns
  have hts := atoms_spec (ws := uX10_nearest) B.pre
  have hown : s.vm.findClass RX10 = some m.cls := hown_of B.named rfl
  have hlocks := B.notSynchronized
  have hl := lv_entry ([.ref o0, .int a1, .int a2]) (n := 5) (Nat.le_of_ble_eq_true rfl)
  rw [lg_entry_eq]
  generalize (lg_sl ([.ref o0, .int a1, .int a2]) ++ List.replicate (5 - (lg_sl ([.ref o0, .int a1, .int a2])).length) Slot.unset).toArray = ls at hl ⊢
  have hl : lv_has ls 5 [(0, .ref o0), (1, .int a1), (2, .int a2)] := hl
  refine lv_aload_n hx hb dX10_nearest_0 rfl (lv_at hl 0 rfl) ?_
  refine lv_iload_n hx hb dX10_nearest_1 rfl (lv_at hl 1 rfl) ?_
  refine lv_iload_n hx hb dX10_nearest_2 rfl (lv_at hl 2 rfl) ?_
  refine vp_callSi (W.runV (As := [.int a1, .int a2]) (rest := []) ⟨hx, hb, hml, hown, hts⟩ (kX10_isBoth l dC dI o0 x_th mwo mim mhi mlu mtp x_td mfv x_sz x_at x_fr x_to x_va x_fk x_fp mfr mwt x_wt x_op x_jo mfg mpl x_dr mtm mfa mqu mmo mwy mwn mma mwi mnu mmv c_wo w_wo ln bs tk lw li a1 a2 b_ln b_bs b_tk b_lw (hw0) (hw1) (hw2) (hw3) (hw4) (hwz)) (cwV 2 hts gX10_nearest__X10_isBoth_V313 rfl rfl rfl hd_yX10_isBoth ⟨lel 3 3 rfl, lel 69 69 rfl⟩) ⟨pw_fb, rcv_X10 hK hP (q0 := 0) rfl, (pw_use hP hK hN [0, 1] rfl [0] rfl)⟩ rfl rfl hl.1 rfl (lv_room (Nat.le_of_ble_eq_true rfl)) dX10_nearest_3 ⟨lel 0 0 rfl, lel 0 0 rfl⟩) (fun r_11 h_r_11 => ?_)
  obtain ⟨b_r_11, nz_r_11⟩ := h_r_11
  have b_r_11 : (0 : Int) ≤ r_11.toInt ∧ r_11.toInt ≤ 1 := b_r_11
  refine lv_if_ne (tgt := 12) hx hb dX10_nearest_6 (by decide) (fun c_12 => ?_) (fun c_12 => ?_)
  ·
    have n_c_12 : (r_11.toInt : Int) ≠ 0 := c_ne rfl (by decide) c_12
    have b_r_11 : (1 : Int) ≤ r_11.toInt ∧ r_11.toInt ≤ 1 := r_ne1 b_r_11 (by decide : (0 : Int) ≤ (0 : Int32).toInt ∧ (0 : Int32).toInt ≤ 0) n_c_12 (by decide)
    obtain ⟨b_a1, b_a2, g_13⟩ := nz_r_11 c_12
    refine lv_aload_n hx hb dX10_nearest_12 rfl (lv_at hl 0 rfl) ?_
    refine lv_iload_n hx hb dX10_nearest_13 rfl (lv_at hl 1 rfl) ?_
    refine lv_iload_n hx hb dX10_nearest_14 rfl (lv_at hl 2 rfl) ?_
    refine vp_callSi (W.runV (As := [.int a1, .int a2]) (rest := []) ⟨hx, hb, hml, hown, hts⟩ (kX10_lastOf l dC dI o0 x_th mwo mim mhi mlu mtp x_td mfv x_sz x_at x_fr x_to x_va x_fk x_fp mfr mwt x_wt x_op x_jo mfg mpl x_dr mtm mfa mqu mmo mwy mwn mma mwi mnu mmv c_wo c_lu w_wo w_lu ln bs tk lw li a1 a2 b_ln b_bs b_tk b_lw (rg_w b_a2 (by decide) (by decide)) (hw0) (hw1) (hw2) (hw3) (hw4) (hwz)) (cwV 2 hts gX10_nearest__X10_lastOf_V328 rfl rfl rfl hd_yX10_lastOf ⟨lel 2 3 rfl, lel 45 69 rfl⟩) ⟨pw_fb, rcv_X10 hK hP (q0 := 0) rfl, (pw_use hP hK hN [0, 1, 2] rfl [0, 1] rfl)⟩ rfl rfl hl.1 rfl (lv_room (Nat.le_of_ble_eq_true rfl)) dX10_nearest_15 ⟨lel 0 0 rfl, lel 0 0 rfl⟩) (fun r_14 h_r_14 => ?_)
    have b_r_14 := h_r_14
    have b_r_14 : (-1 : Int) ≤ r_14.toInt ∧ r_14.toInt ≤ 19999 := b_r_14
    refine lv_istore_n (lv' := [(3, .int r_14), (0, .ref o0), (1, .int a1), (2, .int a2)]) hx hb dX10_nearest_18 rfl hl (by decide) rfl (fun ls hl => ?_)
    refine lv_aload_n hx hb dX10_nearest_19 rfl (lv_at hl 1 rfl) ?_
    refine lv_iload_n hx hb dX10_nearest_20 rfl (lv_at hl 2 rfl) ?_
    refine lv_iload_n hx hb dX10_nearest_21 rfl (lv_at hl 3 rfl) ?_
    refine vp_callSi (W.runV (As := [.int a1, .int a2]) (rest := []) ⟨hx, hb, hml, hown, hts⟩ (kX10_nextOf l dC dI o0 x_th mwo mim mhi mlu mtp x_td mfv x_sz x_at x_fr x_to x_va x_fk x_fp mfr mwt x_wt x_op x_jo mfg mpl x_dr mtm mfa mqu mmo mwy mwn mma mwi mnu mmv c_wo c_lu w_wo w_lu ln bs tk lw li a1 a2 b_ln b_bs b_tk b_lw (rg_w b_a2 (by decide) (by decide)) (hw0) (hw1) (hw2) (hw3) (hw4) (hwz)) (cwV 2 hts gX10_nearest__X10_nextOf_V325 rfl rfl rfl hd_yX10_nextOf ⟨lel 2 3 rfl, lel 45 69 rfl⟩) ⟨pw_fb, rcv_X10 hK hP (q0 := 0) rfl, (pw_use hP hK hN [0, 1, 2] rfl [0, 1] rfl)⟩ rfl rfl hl.1 rfl (lv_room (Nat.le_of_ble_eq_true rfl)) dX10_nearest_22 ⟨lel 0 0 rfl, lel 0 0 rfl⟩) (fun r_15 h_r_15 => ?_)
    obtain ⟨b_r_15, pr_r_15⟩ := h_r_15
    have b_r_15 : (-1 : Int) ≤ r_15.toInt ∧ r_15.toInt ≤ 19999 := b_r_15
    refine lv_istore (lv' := [(4, .int r_15), (3, .int r_14), (0, .ref o0), (1, .int a1), (2, .int a2)]) hx hb dX10_nearest_25 hl (by decide) rfl (fun ls hl => ?_)
    refine lv_iload_n hx hb dX10_nearest_27 rfl (lv_at hl 1 rfl) ?_
    refine lv_iconst (v := (-1)) hx hb dX10_nearest_28 (by decide) ?_
    refine lv_icmp_ne (tgt := 37) hx hb dX10_nearest_29 (by decide) (fun c_16 => ?_) (fun c_16 => ?_)
    ·
      have n_c_16 : (r_14.toInt : Int) ≠ (-1) := c_ne rfl (by decide) c_16
      have b_r_14 : (0 : Int) ≤ r_14.toInt ∧ r_14.toInt ≤ 19999 := r_ne1 b_r_14 (by decide : (-1 : Int) ≤ ((-1) : Int32).toInt ∧ ((-1) : Int32).toInt ≤ -1) n_c_16 (by decide)
      refine lv_iload hx hb dX10_nearest_37 (lv_at hl 0 rfl) ?_
      refine lv_iconst (v := (-1)) hx hb dX10_nearest_39 (by decide) ?_
      refine lv_icmp_eq (tgt := 53) hx hb dX10_nearest_40 (by decide) (fun c_17 => ?_) (fun c_17 => ?_)
      ·
        have n_c_17 : (r_15.toInt : Int) = (-1) := c_eq rfl (by decide) c_17
        have b_r_15 : (-1 : Int) ≤ r_15.toInt ∧ r_15.toInt ≤ -1 := r_eq1 b_r_15 (by decide : (-1 : Int) ≤ ((-1) : Int32).toInt ∧ ((-1) : Int32).toInt ≤ -1) n_c_17 (by decide)
        refine lv_iload_n hx hb dX10_nearest_53 rfl (lv_at hl 1 rfl) ?_
        refine lv_goto (tgt := 59) hx hb dX10_nearest_54 (by decide) ?_
        exact W.iret (v := r_14) hx hb hr (fun t ht hW => ⟨r_14, rfl, (rg_w b_r_14 (by decide) (by decide)), ht⟩) t_nil dX10_nearest_59
      ·
        have n_c_17 : (r_15.toInt : Int) ≠ (-1) := c_ne rfl (by decide) c_17
        have b_r_15 : (0 : Int) ≤ r_15.toInt ∧ r_15.toInt ≤ 19999 := r_ne1 b_r_15 (by decide : (-1 : Int) ≤ ((-1) : Int32).toInt ∧ ((-1) : Int32).toInt ≤ -1) n_c_17 (by decide)
        refine lv_iload_n hx hb dX10_nearest_43 rfl (lv_at hl 4 rfl) ?_
        refine lv_iload_n hx hb dX10_nearest_44 rfl (lv_at hl 1 rfl) ?_
        refine lv_isub hx hb dX10_nearest_45 ?_
        refine lv_topi (fun z_18 e_z_18 => ?_)
        obtain ⟨q_z_18, b_z_18⟩ := ti_sub (lo := -19999) (hi := 19999) e_z_18 rfl rfl b_a2 b_r_14 (by decide)
        refine lv_iload hx hb dX10_nearest_46 (lv_at hl 0 rfl) ?_
        refine lv_iload_n hx hb dX10_nearest_48 rfl (lv_at hl 4 rfl) ?_
        refine lv_isub hx hb dX10_nearest_49 ?_
        refine lv_topi (fun z_19 e_z_19 => ?_)
        obtain ⟨q_z_19, b_z_19⟩ := ti_sub (lo := -19999) (hi := 19999) e_z_19 rfl rfl b_r_15 b_a2 (by decide)
        refine lv_icmp_gt (tgt := 57) hx hb dX10_nearest_50 (by decide) (fun c_20 => ?_) (fun c_20 => ?_)
        ·
          have n_c_20 : (z_19.toInt : Int) < z_18.toInt := c_gt rfl rfl c_20
          have b_z_19 : (-19999 : Int) ≤ z_19.toInt ∧ z_19.toInt ≤ 19998 := r_lt1 b_z_19 b_z_18 n_c_20 (by decide)
          have b_z_18 : (-19998 : Int) ≤ z_18.toInt ∧ z_18.toInt ≤ 19999 := r_lt2 b_z_19 b_z_18 n_c_20 (by decide)
          refine lv_iload hx hb dX10_nearest_57 (lv_at hl 0 rfl) ?_
          exact W.iret (v := r_15) hx hb hr (fun t ht hW => ⟨r_15, rfl, (rg_w b_r_15 (by decide) (by decide)), ht⟩) t_nil dX10_nearest_59
        ·
          have n_c_20 : (z_18.toInt : Int) ≤ z_19.toInt := c_ngt rfl rfl c_20
          refine lv_iload_n hx hb dX10_nearest_53 rfl (lv_at hl 1 rfl) ?_
          refine lv_goto (tgt := 59) hx hb dX10_nearest_54 (by decide) ?_
          exact W.iret (v := r_14) hx hb hr (fun t ht hW => ⟨r_14, rfl, (rg_w b_r_14 (by decide) (by decide)), ht⟩) t_nil dX10_nearest_59
    ·
      have n_c_16 : (r_14.toInt : Int) = (-1) := c_eq rfl (by decide) c_16
      have b_r_14 : (-1 : Int) ≤ r_14.toInt ∧ r_14.toInt ≤ -1 := r_eq1 b_r_14 (by decide : (-1 : Int) ≤ ((-1) : Int32).toInt ∧ ((-1) : Int32).toInt ≤ -1) n_c_16 (by decide)
      refine lv_iload hx hb dX10_nearest_32 (lv_at hl 0 rfl) ?_
      refine lv_goto (tgt := 59) hx hb dX10_nearest_34 (by decide) ?_
      exact W.iret (v := r_15) hx hb hr (fun t ht hW => ⟨r_15, rfl, (rg_w b_r_15 (by decide) (by decide)), ht⟩) t_nil dX10_nearest_59
  ·
    have n_c_12 : (r_11.toInt : Int) = 0 := c_eq rfl (by decide) c_12
    have b_r_11 : (0 : Int) ≤ r_11.toInt ∧ r_11.toInt ≤ 0 := r_eq1 b_r_11 (by decide : (0 : Int) ≤ (0 : Int32).toInt ∧ (0 : Int32).toInt ≤ 0) n_c_12 (by decide)
    refine lv_bipush (v := (-2)) hx hb dX10_nearest_9 (by decide) ?_
    exact W.iret (v := (-2)) hx hb hr (fun t ht hW => ⟨(-2), rfl, (rg_w (by decide : (-2 : Int) ≤ ((-2) : Int32).toInt ∧ ((-2) : Int32).toInt ≤ -2) (by decide) (by decide)), ht⟩) t_nil dX10_nearest_11
theorem dX10_choose_0 : decode cX10_choose 0 = .ok (.iload_n 2, 1) := by decide +kernel
theorem dX10_choose_1 : decode cX10_choose 1 = .ok (.i2l, 1) := by decide +kernel
theorem dX10_choose_2 : decode cX10_choose 2 = .ok (.lload_n 0, 1) := by decide +kernel
theorem dX10_choose_3 : decode cX10_choose 3 = .ok (.lcmp, 1) := by decide +kernel
theorem dX10_choose_4 : decode cX10_choose 4 = .ok (.ifCond .le 5, 3) := by decide +kernel
theorem dX10_choose_7 : decode cX10_choose 7 = .ok (.lconst 0, 1) := by decide +kernel
theorem dX10_choose_8 : decode cX10_choose 8 = .ok (.lreturn, 1) := by decide +kernel
theorem dX10_choose_9 : decode cX10_choose 9 = .ok (.lconst 1, 1) := by decide +kernel
theorem dX10_choose_10 : decode cX10_choose 10 = .ok (.lstore_n 3, 1) := by decide +kernel
theorem dX10_choose_11 : decode cX10_choose 11 = .ok (.iconst 0, 1) := by decide +kernel
theorem dX10_choose_12 : decode cX10_choose 12 = .ok (.istore 5, 2) := by decide +kernel
theorem dX10_choose_14 : decode cX10_choose 14 = .ok (.iload 5, 2) := by decide +kernel
theorem dX10_choose_16 : decode cX10_choose 16 = .ok (.iload_n 2, 1) := by decide +kernel
theorem dX10_choose_17 : decode cX10_choose 17 = .ok (.if_icmp .ge 23, 3) := by decide +kernel
theorem dX10_choose_20 : decode cX10_choose 20 = .ok (.lload_n 3, 1) := by decide +kernel
theorem dX10_choose_21 : decode cX10_choose 21 = .ok (.lload_n 0, 1) := by decide +kernel
theorem dX10_choose_22 : decode cX10_choose 22 = .ok (.iload 5, 2) := by decide +kernel
theorem dX10_choose_24 : decode cX10_choose 24 = .ok (.i2l, 1) := by decide +kernel
theorem dX10_choose_25 : decode cX10_choose 25 = .ok (.lsub, 1) := by decide +kernel
theorem dX10_choose_26 : decode cX10_choose 26 = .ok (.lmul, 1) := by decide +kernel
theorem dX10_choose_27 : decode cX10_choose 27 = .ok (.iload 5, 2) := by decide +kernel
theorem dX10_choose_29 : decode cX10_choose 29 = .ok (.iconst 1, 1) := by decide +kernel
theorem dX10_choose_30 : decode cX10_choose 30 = .ok (.iadd, 1) := by decide +kernel
theorem dX10_choose_31 : decode cX10_choose 31 = .ok (.i2l, 1) := by decide +kernel
theorem dX10_choose_32 : decode cX10_choose 32 = .ok (.ldiv, 1) := by decide +kernel
theorem dX10_choose_33 : decode cX10_choose 33 = .ok (.lstore_n 3, 1) := by decide +kernel
theorem dX10_choose_34 : decode cX10_choose 34 = .ok (.iinc 5 1, 3) := by decide +kernel
theorem dX10_choose_37 : decode cX10_choose 37 = .ok (.goto (-23), 3) := by decide +kernel
theorem dX10_choose_40 : decode cX10_choose 40 = .ok (.lload_n 3, 1) := by decide +kernel
theorem dX10_choose_41 : decode cX10_choose 41 = .ok (.lreturn, 1) := by decide +kernel
theorem hd_yX10_choose : yX10_choose.cls = RX10 ∧ yX10_choose.cls ≠ "java/lang/invoke/MethodHandle" ∧ yX10_choose.cls ≠ "java/lang/invoke/VarHandle" ∧ (parseMethodDescriptor yX10_choose.desc).map (fun d => d.parameters.length) = some 2 := by decide +kernel
def uX10_choose : List Cond := List.cons (.code yX10_choose cX10_choose 6 (some .long)) ([] : List Cond)
theorem guX10_choose : GU uX10_choose := gu_cons (gu_all (by decide +kernel))
set_option maxHeartbeats 4000000 in
set_option maxRecDepth 100000 in
theorem kX10_choose (l : Launch) (dC : Nat → ClassId) (dI : Nat → Nat → Nat) (a1 : Int64) (a2 : Int32) (b_a2 : (0 : Int) ≤ a2.toInt ∧ a2.toInt ≤ 4) : Met l yX10_choose uX10_choose ({ frames := 0, cells := 0, slots := 0, locals := 0 }) (va_Pc [.long a1, .int a2] (fun _ => True)) (vp_Sl (fun r => True)) 0 0 (fun _ => False) := by
  refine Met.ofW (cc := cX10_choose) (maxL := 6) (ret := (some .long)) pn_X10 rfl ?_
  intro p e s m args below meth c s₁ B hml hv
  obtain ⟨rfl, _⟩ := hv
  have hx := B.exec
  have hb := B.bytes
  have hr := B.returns
  have hts := atoms_spec (ws := uX10_choose) B.pre
  have hown : s.vm.findClass RX10 = some m.cls := hown_of B.named rfl
  have hlocks := B.notSynchronized
  have hl := lv_entry ([.long a1, .int a2]) (n := 6) (Nat.le_of_ble_eq_true rfl)
  rw [lg_entry_eq]
  generalize (lg_sl ([.long a1, .int a2]) ++ List.replicate (6 - (lg_sl ([.long a1, .int a2])).length) Slot.unset).toArray = ls at hl ⊢
  have hl : lv_has ls 6 [(0, .long a1), (2, .int a2)] := hl
  refine lv_iload_n hx hb dX10_choose_0 rfl (lv_at hl 1 rfl) ?_
  obtain ⟨z_51, e_z_51⟩ : ∃ y : Int64, y = a2.toInt64 := ⟨_, rfl⟩
  refine lv_i2l (v := z_51) hx hb dX10_choose_1 e_z_51.symm ?_
  obtain ⟨q_z_51, b_z_51⟩ := ti_i2l e_z_51 b_a2
  refine lv_lload_n hx hb dX10_choose_2 rfl (lv_at hl 0 rfl) ?_
  refine W.lcmp hx hb dX10_choose_3 ?_
  refine lv_if_le (tgt := 9) hx hb dX10_choose_4 (by decide) (fun c_52 => ?_) (fun c_52 => ?_)
  ·
    have n_c_52 : (z_51.toInt : Int) ≤ a1.toInt := g_le rfl rfl c_52
    have b_a1 : (0 : Int) ≤ a1.toInt ∧ a1.toInt ≤ 9223372036854775807 := r_le2 b_z_51 (tl_rng a1) n_c_52 (by decide)
    refine lv_lconst (v := 1) hx hb dX10_choose_9 (by decide) ?_
    refine lv_lstore_n (lv' := [(3, .long 1), (0, .long a1), (2, .int a2)]) hx hb dX10_choose_10 rfl hl (by decide) rfl (fun ls hl => ?_)
    refine lv_iconst (v := 0) hx hb dX10_choose_11 (by decide) ?_
    refine lv_istore (lv' := [(5, .int 0), (3, .long 1), (0, .long a1), (2, .int a2)]) hx hb dX10_choose_12 hl (by decide) rfl (fun ls hl => ?_)
    refine loopP (σ := Int32 × Int64) (fun v => (4 - v.1.toInt).toNat) (fun v ls => ((0 : Int) ≤ v.1.toInt ∧ v.1.toInt ≤ 4) ∧ lv_has ls 6 [(5, .int v.1), (3, .long v.2), (0, .long a1), (2, .int a2)]) (fun v ls hI ih_14_92 => ?_) ((0 : Int32), (1 : Int64)) ⟨(show (0 : Int) ≤ (0 : Int32).toInt ∧ (0 : Int32).toInt ≤ 4 from (rg_w (by decide : (0 : Int) ≤ (0 : Int32).toInt ∧ (0 : Int32).toInt ≤ 0) (by decide) (by decide))), lv_sub hl [0, 1, 2, 3] rfl⟩
    obtain ⟨y_59, y_60⟩ := v
    obtain ⟨b_y_59, hl⟩ := hI
    have b_y_59 : (0 : Int) ≤ y_59.toInt ∧ y_59.toInt ≤ 4 := b_y_59
    have hl : lv_has ls 6 [(5, .int y_59), (3, .long y_60), (0, .long a1), (2, .int a2)] := hl
    refine lv_iload hx hb dX10_choose_14 (lv_at hl 0 rfl) ?_
    refine lv_iload_n hx hb dX10_choose_16 rfl (lv_at hl 3 rfl) ?_
    refine lv_icmp_ge (tgt := 40) hx hb dX10_choose_17 (by decide) (fun c_93 => ?_) (fun c_93 => ?_)
    ·
      have n_c_93 : (a2.toInt : Int) ≤ y_59.toInt := c_ge rfl rfl c_93
      refine lv_lload_n hx hb dX10_choose_40 rfl (lv_at hl 1 rfl) ?_
      exact W.lret (v := y_60) hx hb hr (fun t ht hW => ⟨y_60, rfl, trivial, ht⟩) t_nil dX10_choose_41
    ·
      have n_c_93 : (y_59.toInt : Int) < a2.toInt := c_nge rfl rfl c_93
      have b_y_59 : (0 : Int) ≤ y_59.toInt ∧ y_59.toInt ≤ 3 := r_lt1 b_y_59 b_a2 n_c_93 (by decide)
      have b_a2 : (1 : Int) ≤ a2.toInt ∧ a2.toInt ≤ 4 := r_lt2 b_y_59 b_a2 n_c_93 (by decide)
      refine lv_lload_n hx hb dX10_choose_20 rfl (lv_at hl 1 rfl) ?_
      refine lv_lload_n hx hb dX10_choose_21 rfl (lv_at hl 2 rfl) ?_
      refine lv_iload hx hb dX10_choose_22 (lv_at hl 0 rfl) ?_
      obtain ⟨z_94, e_z_94⟩ : ∃ y : Int64, y = y_59.toInt64 := ⟨_, rfl⟩
      refine lv_i2l (v := z_94) hx hb dX10_choose_24 e_z_94.symm ?_
      obtain ⟨q_z_94, b_z_94⟩ := ti_i2l e_z_94 b_y_59
      refine lv_lsub hx hb dX10_choose_25 ?_
      refine lv_topl (fun z_95 e_z_95 => ?_)
      obtain ⟨q_z_95, b_z_95⟩ := tl_sub (lo := -3) (hi := 9223372036854775807) e_z_95 rfl rfl b_a1 b_z_94 (by decide)
      refine lv_lmul hx hb dX10_choose_26 ?_
      refine lv_topl (fun z_96 e_z_96 => ?_)
      refine lv_iload hx hb dX10_choose_27 (lv_at hl 0 rfl) ?_
      refine lv_iconst (v := 1) hx hb dX10_choose_29 (by decide) ?_
      refine lv_iadd hx hb dX10_choose_30 ?_
      refine lv_topi (fun z_97 e_z_97 => ?_)
      obtain ⟨q_z_97, b_z_97⟩ := ti_add (lo := 1) (hi := 4) e_z_97 rfl (by decide : (1 : Int32).toInt = 1) b_y_59 (by decide : (1 : Int) ≤ (1 : Int32).toInt ∧ (1 : Int32).toInt ≤ 1) (by decide)
      obtain ⟨z_98, e_z_98⟩ : ∃ y : Int64, y = z_97.toInt64 := ⟨_, rfl⟩
      refine lv_i2l (v := z_98) hx hb dX10_choose_31 e_z_98.symm ?_
      obtain ⟨q_z_98, b_z_98⟩ := ti_i2l e_z_98 b_z_97
      refine lv_ldiv hx hb dX10_choose_32 (tl_ne b_z_98 (by decide)) ?_
      refine lv_topl (fun z_99 e_z_99 => ?_)
      refine lv_lstore_n (lv' := [(3, .long z_99), (5, .int y_59), (0, .long a1), (2, .int a2)]) hx hb dX10_choose_33 rfl hl (by decide) rfl (fun ls hl => ?_)
      obtain ⟨z_100, e_z_100⟩ : ∃ y : Int32, y = y_59 + 1 := ⟨_, rfl⟩
      refine lv_iinc (v := z_100) (lv' := [(5, .int z_100), (3, .long z_99), (0, .long a1), (2, .int a2)]) hx hb dX10_choose_34 hl (k := 1) rfl (by rw [e_z_100]; rfl) (by decide) rfl (fun ls hl => ?_)
      obtain ⟨q_z_100, b_z_100⟩ := ti_add (lo := 1) (hi := 4) e_z_100 rfl (by decide : (1 : Int32).toInt = 1) b_y_59 (by decide : (1 : Int) ≤ (1 : Int32).toInt ∧ (1 : Int32).toInt ≤ 1) (by decide)
      refine lv_goto (tgt := 14) hx hb dX10_choose_37 (by decide) ?_
      exact ih_14_92 (z_100, z_99) _ ⟨(show (0 : Int) ≤ z_100.toInt ∧ z_100.toInt ≤ 4 from (rg_w b_z_100 (by decide) (by decide))), lv_sub hl [0, 1, 2, 3] rfl⟩ (show (4 - z_100.toInt).toNat < (4 - y_59.toInt).toNat by omega)
  ·
    have n_c_52 : (a1.toInt : Int) < z_51.toInt := g_nle rfl rfl c_52
    have b_a1 : (-9223372036854775808 : Int) ≤ a1.toInt ∧ a1.toInt ≤ 3 := r_lt1 (tl_rng a1) b_z_51 n_c_52 (by decide)
    refine lv_lconst (v := 0) hx hb dX10_choose_7 (by decide) ?_
    exact W.lret (v := 0) hx hb hr (fun t ht hW => ⟨0, rfl, trivial, ht⟩) t_nil dX10_choose_8
theorem dX10_seldom_0 : decode cX10_seldom 0 = .ok (.aload_n 0, 1) := by decide +kernel
theorem dX10_seldom_1 : decode cX10_seldom 1 = .ok (.iload_n 1, 1) := by decide +kernel
theorem dX10_seldom_2 : decode cX10_seldom 2 = .ok (.invokevirtual 89, 3) := by decide +kernel
theorem dX10_seldom_5 : decode cX10_seldom 5 = .ok (.ifCond .eq 27, 3) := by decide +kernel
theorem dX10_seldom_8 : decode cX10_seldom 8 = .ok (.iload_n 2, 1) := by decide +kernel
theorem dX10_seldom_9 : decode cX10_seldom 9 = .ok (.i2l, 1) := by decide +kernel
theorem dX10_seldom_10 : decode cX10_seldom 10 = .ok (.lconst 1, 1) := by decide +kernel
theorem dX10_seldom_11 : decode cX10_seldom 11 = .ok (.ldc2_w 414, 3) := by decide +kernel
theorem dX10_seldom_14 : decode cX10_seldom 14 = .ok (.invokestatic 82, 3) := by decide +kernel
theorem dX10_seldom_17 : decode cX10_seldom 17 = .ok (.ifCond .eq 15, 3) := by decide +kernel
theorem dX10_seldom_20 : decode cX10_seldom 20 = .ok (.iload_n 3, 1) := by decide +kernel
theorem dX10_seldom_21 : decode cX10_seldom 21 = .ok (.i2l, 1) := by decide +kernel
theorem dX10_seldom_22 : decode cX10_seldom 22 = .ok (.lconst 0, 1) := by decide +kernel
theorem dX10_seldom_23 : decode cX10_seldom 23 = .ok (.ldc2_w 414, 3) := by decide +kernel
theorem dX10_seldom_26 : decode cX10_seldom 26 = .ok (.invokestatic 82, 3) := by decide +kernel
theorem dX10_seldom_29 : decode cX10_seldom 29 = .ok (.ifCond .ne 7, 3) := by decide +kernel
theorem dX10_seldom_32 : decode cX10_seldom 32 = .ok (.ldc2_w 416, 3) := by decide +kernel
theorem dX10_seldom_35 : decode cX10_seldom 35 = .ok (.lreturn, 1) := by decide +kernel
theorem dX10_seldom_36 : decode cX10_seldom 36 = .ok (.aload_n 0, 1) := by decide +kernel
theorem dX10_seldom_37 : decode cX10_seldom 37 = .ok (.iload_n 1, 1) := by decide +kernel
theorem dX10_seldom_38 : decode cX10_seldom 38 = .ok (.invokevirtual 322, 3) := by decide +kernel
theorem dX10_seldom_41 : decode cX10_seldom 41 = .ok (.i2l, 1) := by decide +kernel
theorem dX10_seldom_42 : decode cX10_seldom 42 = .ok (.lstore 4, 2) := by decide +kernel
theorem dX10_seldom_44 : decode cX10_seldom 44 = .ok (.lconst 0, 1) := by decide +kernel
theorem dX10_seldom_45 : decode cX10_seldom 45 = .ok (.lstore 6, 2) := by decide +kernel
theorem dX10_seldom_47 : decode cX10_seldom 47 = .ok (.iconst 0, 1) := by decide +kernel
theorem dX10_seldom_48 : decode cX10_seldom 48 = .ok (.istore 8, 2) := by decide +kernel
theorem dX10_seldom_50 : decode cX10_seldom 50 = .ok (.iload 8, 2) := by decide +kernel
theorem dX10_seldom_52 : decode cX10_seldom 52 = .ok (.iload_n 3, 1) := by decide +kernel
theorem dX10_seldom_53 : decode cX10_seldom 53 = .ok (.if_icmp .gt 45, 3) := by decide +kernel
theorem dX10_seldom_56 : decode cX10_seldom 56 = .ok (.iload 8, 2) := by decide +kernel
theorem dX10_seldom_58 : decode cX10_seldom 58 = .ok (.iload_n 2, 1) := by decide +kernel
theorem dX10_seldom_59 : decode cX10_seldom 59 = .ok (.if_icmp .gt 39, 3) := by decide +kernel
theorem dX10_seldom_62 : decode cX10_seldom 62 = .ok (.lload 6, 2) := by decide +kernel
theorem dX10_seldom_64 : decode cX10_seldom 64 = .ok (.lload 4, 2) := by decide +kernel
theorem dX10_seldom_66 : decode cX10_seldom 66 = .ok (.iload 8, 2) := by decide +kernel
theorem dX10_seldom_68 : decode cX10_seldom 68 = .ok (.invokestatic 418, 3) := by decide +kernel
theorem dX10_seldom_71 : decode cX10_seldom 71 = .ok (.aload_n 0, 1) := by decide +kernel
theorem dX10_seldom_72 : decode cX10_seldom 72 = .ok (.getfield 9, 3) := by decide +kernel
theorem dX10_seldom_75 : decode cX10_seldom 75 = .ok (.iconst 2, 1) := by decide +kernel
theorem dX10_seldom_76 : decode cX10_seldom 76 = .ok (.iaload, 1) := by decide +kernel
theorem dX10_seldom_77 : decode cX10_seldom 77 = .ok (.i2l, 1) := by decide +kernel
theorem dX10_seldom_78 : decode cX10_seldom 78 = .ok (.lload 4, 2) := by decide +kernel
theorem dX10_seldom_80 : decode cX10_seldom 80 = .ok (.lsub, 1) := by decide +kernel
theorem dX10_seldom_81 : decode cX10_seldom 81 = .ok (.iload_n 2, 1) := by decide +kernel
theorem dX10_seldom_82 : decode cX10_seldom 82 = .ok (.iload 8, 2) := by decide +kernel
theorem dX10_seldom_84 : decode cX10_seldom 84 = .ok (.isub, 1) := by decide +kernel
theorem dX10_seldom_85 : decode cX10_seldom 85 = .ok (.invokestatic 418, 3) := by decide +kernel
theorem dX10_seldom_88 : decode cX10_seldom 88 = .ok (.lmul, 1) := by decide +kernel
theorem dX10_seldom_89 : decode cX10_seldom 89 = .ok (.ladd, 1) := by decide +kernel
theorem dX10_seldom_90 : decode cX10_seldom 90 = .ok (.lstore 6, 2) := by decide +kernel
theorem dX10_seldom_92 : decode cX10_seldom 92 = .ok (.iinc 8 1, 3) := by decide +kernel
theorem dX10_seldom_95 : decode cX10_seldom 95 = .ok (.goto (-45), 3) := by decide +kernel
theorem dX10_seldom_98 : decode cX10_seldom 98 = .ok (.lload 6, 2) := by decide +kernel
theorem dX10_seldom_100 : decode cX10_seldom 100 = .ok (.lreturn, 1) := by decide +kernel
theorem hd_yX10_seldom : yX10_seldom.cls = RX10 ∧ yX10_seldom.cls ≠ "java/lang/invoke/MethodHandle" ∧ yX10_seldom.cls ≠ "java/lang/invoke/VarHandle" ∧ (parseMethodDescriptor yX10_seldom.desc).map (fun d => d.parameters.length) = some 3 := by decide +kernel
def uX10_seldom : List Cond := List.cons (.code yX10_seldom cX10_seldom 9 (some .long)) (HAppend.hAppend ([.methodLink RX10 89 yX10_isLaw, .instanceMethod yX10_isLaw, .selects RX10 yX10_isLaw yX10_isLaw, .initialized RX10, .constantLong RX10 416 (-2), .constantLong RX10 414 (4), .methodLink RX10 82 yX10_in, .static yX10_in, .methodLink RX10 322 yX10_allOf, .instanceMethod yX10_allOf, .selects RX10 yX10_allOf yX10_allOf, .methodLink RX10 418 yX10_choose, .static yX10_choose, .fieldLink RX10 9 "LuckyTicketModel" "world" "[I"] : List Cond) (HAppend.hAppend uX10_isLaw (HAppend.hAppend uX10_in (HAppend.hAppend uX10_allOf (HAppend.hAppend uX10_choose wsX100)))))
theorem iX10_seldom_X10 : ∀ w ∈ wsX100, w ∈ uX10_seldom := fun _ h => (List.mem_cons_of_mem _ (List.mem_append_right _ (List.mem_append_right _ (List.mem_append_right _ (List.mem_append_right _ (List.mem_append_right _ h))))))
theorem guX10_seldom : GU uX10_seldom := gu_cons (gu_app (by decide +kernel) (gu_ap guX10_isLaw (gu_ap guX10_in (gu_ap guX10_allOf (gu_ap guX10_choose gws_X10)))))
theorem gX10_seldom__X10_isLaw_V89 : GoodIn uX10_seldom (wsV RX10 89 RX10 yX10_isLaw uX10_isLaw) := gin_V (List.mem_of_getElem? (i := 1) rfl) (List.mem_of_getElem? (i := 2) rfl) (List.mem_of_getElem? (i := 3) rfl) (List.mem_of_getElem? (i := 4) rfl) (fun _ h => (List.mem_cons_of_mem _ (List.mem_append_right _ (List.mem_append_left _ h)))) guX10_isLaw
theorem gX10_seldom__X10_in_S82 : GoodIn uX10_seldom (va_wsS RX10 82 yX10_in uX10_in) := gin_S (List.mem_of_getElem? (i := 7) rfl) (List.mem_of_getElem? (i := 8) rfl) (List.mem_of_getElem? (i := 4) rfl) (fun _ h => (List.mem_cons_of_mem _ (List.mem_append_right _ (List.mem_append_right _ (List.mem_append_left _ h))))) guX10_in
theorem gX10_seldom__X10_allOf_V322 : GoodIn uX10_seldom (wsV RX10 322 RX10 yX10_allOf uX10_allOf) := gin_V (List.mem_of_getElem? (i := 9) rfl) (List.mem_of_getElem? (i := 10) rfl) (List.mem_of_getElem? (i := 11) rfl) (List.mem_of_getElem? (i := 4) rfl) (fun _ h => (List.mem_cons_of_mem _ (List.mem_append_right _ (List.mem_append_right _ (List.mem_append_right _ (List.mem_append_left _ h)))))) guX10_allOf
theorem gX10_seldom__X10_choose_S418 : GoodIn uX10_seldom (va_wsS RX10 418 yX10_choose uX10_choose) := gin_S (List.mem_of_getElem? (i := 12) rfl) (List.mem_of_getElem? (i := 13) rfl) (List.mem_of_getElem? (i := 4) rfl) (fun _ h => (List.mem_cons_of_mem _ (List.mem_append_right _ (List.mem_append_right _ (List.mem_append_right _ (List.mem_append_right _ (List.mem_append_left _ h))))))) guX10_choose
set_option maxHeartbeats 4000000 in
set_option maxRecDepth 100000 in
theorem kX10_seldom (l : Launch) (dC : Nat → ClassId) (dI : Nat → Nat → Nat) (o0 : Nat) (x_th : Int32) (mwo : Nat) (mim : Nat) (mhi : Nat) (mlu : Nat) (mtp : Nat) (x_td : Int32) (mfv : Nat) (x_sz : Int32) (x_at : Int32) (x_fr : Int32) (x_to : Int32) (x_va : Int32) (x_fk : Int32) (x_fp : Int32) (mfr : Nat) (mwt : Nat) (x_wt : Int32) (x_op : Int32) (x_jo : Int32) (mfg : Nat) (mpl : Nat) (x_dr : Int64) (mtm : Nat) (mfa : Nat) (mqu : Nat) (mmo : Nat) (mwy : Nat) (mwn : Nat) (mma : Nat) (mwi : Nat) (mnu : Nat) (mmv : Nat) (c_wo : ClassId) (c_lu : ClassId) (w_wo : Nat → Int32) (w_lu : Nat → Int32) (ln : Int32) (bs : Int32) (tk : Int32) (lw : Int32) (li : Int32) (a1 : Int32) (a2 : Int32) (a3 : Int32) (b_ln : (0 : Int) ≤ ln.toInt ∧ ln.toInt ≤ 12) (b_bs : (0 : Int) ≤ bs.toInt ∧ bs.toInt ≤ 16) (b_tk : (0 : Int) ≤ tk.toInt ∧ tk.toInt ≤ 20000) (b_lw : (0 : Int) ≤ lw.toInt ∧ lw.toInt ≤ 9) (hw0 : w_wo 0 = ln) (hw1 : w_wo 1 = bs) (hw2 : w_wo 2 = tk) (hw3 : w_wo 3 = lw) (hw4 : w_wo 4 = li) (hwz : (ln.toInt = 0 ∧ bs.toInt = 0 ∧ tk.toInt = 0 ∧ lw.toInt = 0) ∨ (1 ≤ ln.toInt ∧ 2 ≤ bs.toInt ∧ 1 ≤ tk.toInt)) : Met l yX10_seldom uX10_seldom ({ frames := 2, cells := 0, slots := 0, locals := 46 }) (va_Pc [.ref o0, .int a1, .int a2, .int a3] (pw (dC, dI) vwCl [(o0, .inr (8, [.int x_th, .ref mwo, .ref mim, .ref mhi, .ref mlu, .ref mtp, .int x_td, .ref mfv, .int x_sz, .int x_at, .int x_fr, .int x_to, .int x_va, .int x_fk, .int x_fp, .ref mfr, .ref mwt, .int x_wt, .int x_op, .int x_jo, .ref mfg, .ref mpl, .long x_dr, .ref mtm, .ref mfa, .ref mqu, .ref mmo, .ref mwy, .ref mwn, .ref mma, .ref mwi, .ref mnu, .ref mmv])), (mwo, .inl (c_wo, 1875, .inl w_wo)), (mlu, .inl (c_lu, 20000, .inl w_lu))] [(c_wo, .int), (c_lu, .int)])) (vp_Sl (fun r => True)) 0 0 (fun _ => False) := by
  refine Met.ofW (cc := cX10_seldom) (maxL := 9) (ret := (some .long)) pn_X10 rfl ?_
  intro p e s m args below meth c s₁ B hml hv
  obtain ⟨rfl, hP, hK, hN⟩ := hv
  have hx := B.exec
  have hb := B.bytes
  have hr := B.returns
  have hts := atoms_spec (ws := uX10_seldom) B.pre
  have hown : s.vm.findClass RX10 = some m.cls := hown_of B.named rfl
  have hlocks := B.notSynchronized
  have hl := lv_entry ([.ref o0, .int a1, .int a2, .int a3]) (n := 9) (Nat.le_of_ble_eq_true rfl)
  rw [lg_entry_eq]
  generalize (lg_sl ([.ref o0, .int a1, .int a2, .int a3]) ++ List.replicate (9 - (lg_sl ([.ref o0, .int a1, .int a2, .int a3])).length) Slot.unset).toArray = ls at hl ⊢
  have hl : lv_has ls 9 [(0, .ref o0), (1, .int a1), (2, .int a2), (3, .int a3)] := hl
  refine lv_aload_n hx hb dX10_seldom_0 rfl (lv_at hl 0 rfl) ?_
  refine lv_iload_n hx hb dX10_seldom_1 rfl (lv_at hl 1 rfl) ?_
  refine vp_callSi (W.runV (As := [.int a1]) (rest := []) ⟨hx, hb, hml, hown, hts⟩ (kX10_isLaw l dC dI o0 x_th mwo mim mhi mlu mtp x_td mfv x_sz x_at x_fr x_to x_va x_fk x_fp mfr mwt x_wt x_op x_jo mfg mpl x_dr mtm mfa mqu mmo mwy mwn mma mwi mnu mmv c_wo w_wo ln bs tk lw li a1 b_ln b_bs b_tk b_lw (hw0) (hw1) (hw2) (hw3) (hw4) (hwz)) (cwV 1 hts gX10_seldom__X10_isLaw_V89 rfl rfl rfl hd_yX10_isLaw ⟨lel 2 2 rfl, lel 46 46 rfl⟩) ⟨pw_fb, rcv_X10 hK hP (q0 := 0) rfl, (pw_use hP hK hN [0, 1] rfl [0] rfl)⟩ rfl rfl hl.1 rfl (lv_room (Nat.le_of_ble_eq_true rfl)) dX10_seldom_2 ⟨lel 0 0 rfl, lel 0 0 rfl⟩) (fun r_82 h_r_82 => ?_)
  obtain ⟨b_r_82, nz_r_82⟩ := h_r_82
  have b_r_82 : (0 : Int) ≤ r_82.toInt ∧ r_82.toInt ≤ 1 := b_r_82
  refine lv_if_eq (tgt := 32) hx hb dX10_seldom_5 (by decide) (fun c_83 => ?_) (fun c_83 => ?_)
  ·
    have n_c_83 : (r_82.toInt : Int) = 0 := c_eq rfl (by decide) c_83
    have b_r_82 : (0 : Int) ≤ r_82.toInt ∧ r_82.toInt ≤ 0 := r_eq1 b_r_82 (by decide : (0 : Int) ≤ (0 : Int32).toInt ∧ (0 : Int32).toInt ≤ 0) n_c_83 (by decide)
    refine lv_ldc2 (v := (-2)) hx hb hown (hts (.constantLong RX10 416 (-2)) (List.mem_of_getElem? (i := 5) rfl)) dX10_seldom_32 ?_
    exact W.lret (v := (-2)) hx hb hr (fun t ht hW => ⟨(-2), rfl, trivial, ht⟩) t_nil dX10_seldom_35
  ·
    have n_c_83 : (r_82.toInt : Int) ≠ 0 := c_ne rfl (by decide) c_83
    have b_r_82 : (1 : Int) ≤ r_82.toInt ∧ r_82.toInt ≤ 1 := r_ne1 b_r_82 (by decide : (0 : Int) ≤ (0 : Int32).toInt ∧ (0 : Int32).toInt ≤ 0) n_c_83 (by decide)
    obtain ⟨b_a1, g_84⟩ := nz_r_82 c_83
    refine lv_iload_n hx hb dX10_seldom_8 rfl (lv_at hl 2 rfl) ?_
    obtain ⟨z_85, e_z_85⟩ : ∃ y : Int64, y = a2.toInt64 := ⟨_, rfl⟩
    refine lv_i2l (v := z_85) hx hb dX10_seldom_9 e_z_85.symm ?_
    obtain ⟨q_z_85, b_z_85⟩ := ti_i2l e_z_85 (ti_rng a2)
    refine lv_lconst (v := 1) hx hb dX10_seldom_10 (by decide) ?_
    refine lv_ldc2 (v := 4) hx hb hown (hts (.constantLong RX10 414 (4)) (List.mem_of_getElem? (i := 6) rfl)) dX10_seldom_11 ?_
    refine vp_callSi (W.runS (As := [.long z_85, .long 1, .long 4]) (rest := []) ⟨hx, hb, hml, hown, hts⟩ (kX10_in l dC dI z_85 1 4 ) (va_cwS 3 hts gX10_seldom__X10_in_S82 rfl rfl rfl hd_yX10_in.2 ⟨lel 1 2 rfl, lel 25 46 rfl⟩) ⟨pn_fb, pn_use⟩ rfl rfl hl.1 rfl (lv_room (Nat.le_of_ble_eq_true rfl)) dX10_seldom_14 ⟨lel 0 0 rfl, lel 0 0 rfl⟩) (fun r_86 h_r_86 => ?_)
    obtain ⟨b_r_86, nz_r_86⟩ := h_r_86
    have b_r_86 : (0 : Int) ≤ r_86.toInt ∧ r_86.toInt ≤ 1 := b_r_86
    refine lv_if_eq (tgt := 32) hx hb dX10_seldom_17 (by decide) (fun c_87 => ?_) (fun c_87 => ?_)
    ·
      have n_c_87 : (r_86.toInt : Int) = 0 := c_eq rfl (by decide) c_87
      have b_r_86 : (0 : Int) ≤ r_86.toInt ∧ r_86.toInt ≤ 0 := r_eq1 b_r_86 (by decide : (0 : Int) ≤ (0 : Int32).toInt ∧ (0 : Int32).toInt ≤ 0) n_c_87 (by decide)
      refine lv_ldc2 (v := (-2)) hx hb hown (hts (.constantLong RX10 416 (-2)) (List.mem_of_getElem? (i := 5) rfl)) dX10_seldom_32 ?_
      exact W.lret (v := (-2)) hx hb hr (fun t ht hW => ⟨(-2), rfl, trivial, ht⟩) t_nil dX10_seldom_35
    ·
      have n_c_87 : (r_86.toInt : Int) ≠ 0 := c_ne rfl (by decide) c_87
      have b_r_86 : (1 : Int) ≤ r_86.toInt ∧ r_86.toInt ≤ 1 := r_ne1 b_r_86 (by decide : (0 : Int) ≤ (0 : Int32).toInt ∧ (0 : Int32).toInt ≤ 0) n_c_87 (by decide)
      have g_88 := nz_r_86 c_87
      have lt0_g_88 := (by decide : (1 : Int64).toInt = 1)
      have lt1_g_88 := (by decide : (4 : Int64).toInt = 4)
      have b_z_85 : (1 : Int) ≤ z_85.toInt ∧ z_85.toInt ≤ 4 := by
        have q0 := b_z_85
        have q1 := (by decide : (1 : Int) ≤ (1 : Int64).toInt ∧ (1 : Int64).toInt ≤ 1)
        have q2 := (by decide : (4 : Int) ≤ (4 : Int64).toInt ∧ (4 : Int64).toInt ≤ 4)
        omega
      have b_a2 : (1 : Int) ≤ a2.toInt ∧ a2.toInt ≤ 4 := by
        have q0 := b_z_85; have q1 := q_z_85; have q2 := (ti_rng a2); omega
      refine lv_iload_n hx hb dX10_seldom_20 rfl (lv_at hl 3 rfl) ?_
      obtain ⟨z_89, e_z_89⟩ : ∃ y : Int64, y = a3.toInt64 := ⟨_, rfl⟩
      refine lv_i2l (v := z_89) hx hb dX10_seldom_21 e_z_89.symm ?_
      obtain ⟨q_z_89, b_z_89⟩ := ti_i2l e_z_89 (ti_rng a3)
      refine lv_lconst (v := 0) hx hb dX10_seldom_22 (by decide) ?_
      refine lv_ldc2 (v := 4) hx hb hown (hts (.constantLong RX10 414 (4)) (List.mem_of_getElem? (i := 6) rfl)) dX10_seldom_23 ?_
      refine vp_callSi (W.runS (As := [.long z_89, .long 0, .long 4]) (rest := []) ⟨hx, hb, hml, hown, hts⟩ (kX10_in l dC dI z_89 0 4 ) (va_cwS 3 hts gX10_seldom__X10_in_S82 rfl rfl rfl hd_yX10_in.2 ⟨lel 1 2 rfl, lel 25 46 rfl⟩) ⟨pn_fb, pn_use⟩ rfl rfl hl.1 rfl (lv_room (Nat.le_of_ble_eq_true rfl)) dX10_seldom_26 ⟨lel 0 0 rfl, lel 0 0 rfl⟩) (fun r_90 h_r_90 => ?_)
      obtain ⟨b_r_90, nz_r_90⟩ := h_r_90
      have b_r_90 : (0 : Int) ≤ r_90.toInt ∧ r_90.toInt ≤ 1 := b_r_90
      refine lv_if_ne (tgt := 36) hx hb dX10_seldom_29 (by decide) (fun c_91 => ?_) (fun c_91 => ?_)
      ·
        have n_c_91 : (r_90.toInt : Int) ≠ 0 := c_ne rfl (by decide) c_91
        have b_r_90 : (1 : Int) ≤ r_90.toInt ∧ r_90.toInt ≤ 1 := r_ne1 b_r_90 (by decide : (0 : Int) ≤ (0 : Int32).toInt ∧ (0 : Int32).toInt ≤ 0) n_c_91 (by decide)
        have g_92 := nz_r_90 c_91
        have lt0_g_92 := (by decide : (0 : Int64).toInt = 0)
        have lt1_g_92 := (by decide : (4 : Int64).toInt = 4)
        have b_z_89 : (0 : Int) ≤ z_89.toInt ∧ z_89.toInt ≤ 4 := by
          have q0 := b_z_89
          have q1 := (by decide : (0 : Int) ≤ (0 : Int64).toInt ∧ (0 : Int64).toInt ≤ 0)
          have q2 := (by decide : (4 : Int) ≤ (4 : Int64).toInt ∧ (4 : Int64).toInt ≤ 4)
          omega
        have b_a3 : (0 : Int) ≤ a3.toInt ∧ a3.toInt ≤ 4 := by
          have q0 := b_z_89; have q1 := q_z_89; have q2 := (ti_rng a3); omega
        refine lv_aload_n hx hb dX10_seldom_36 rfl (lv_at hl 0 rfl) ?_
        refine lv_iload_n hx hb dX10_seldom_37 rfl (lv_at hl 1 rfl) ?_
        refine vp_callSi (W.runV (As := [.int a1]) (rest := []) ⟨hx, hb, hml, hown, hts⟩ (kX10_allOf l dC dI o0 x_th mwo mim mhi mlu mtp x_td mfv x_sz x_at x_fr x_to x_va x_fk x_fp mfr mwt x_wt x_op x_jo mfg mpl x_dr mtm mfa mqu mmo mwy mwn mma mwi mnu mmv c_wo c_lu w_wo w_lu ln bs tk lw li a1 b_ln b_bs b_tk b_lw (hw0) (hw1) (hw2) (hw3) (hw4) (hwz)) (cwV 1 hts gX10_seldom__X10_allOf_V322 rfl rfl rfl hd_yX10_allOf ⟨lel 2 2 rfl, lel 45 46 rfl⟩) ⟨pw_fb, rcv_X10 hK hP (q0 := 0) rfl, (pw_use hP hK hN [0, 1, 2] rfl [0, 1] rfl)⟩ rfl rfl hl.1 rfl (lv_room (Nat.le_of_ble_eq_true rfl)) dX10_seldom_38 ⟨lel 0 0 rfl, lel 0 0 rfl⟩) (fun r_93 h_r_93 => ?_)
        obtain ⟨b_r_93, pr_r_93⟩ := h_r_93
        have b_r_93 : (0 : Int) ≤ r_93.toInt ∧ r_93.toInt ≤ 20000 := b_r_93
        obtain ⟨z_94, e_z_94⟩ : ∃ y : Int64, y = r_93.toInt64 := ⟨_, rfl⟩
        refine lv_i2l (v := z_94) hx hb dX10_seldom_41 e_z_94.symm ?_
        obtain ⟨q_z_94, b_z_94⟩ := ti_i2l e_z_94 b_r_93
        refine lv_lstore (lv' := [(4, .long z_94), (0, .ref o0), (1, .int a1), (2, .int a2), (3, .int a3)]) hx hb dX10_seldom_42 hl (by decide) rfl (fun ls hl => ?_)
        refine lv_lconst (v := 0) hx hb dX10_seldom_44 (by decide) ?_
        refine lv_lstore (lv' := [(6, .long 0), (4, .long z_94), (0, .ref o0), (1, .int a1), (2, .int a2), (3, .int a3)]) hx hb dX10_seldom_45 hl (by decide) rfl (fun ls hl => ?_)
        refine lv_iconst (v := 0) hx hb dX10_seldom_47 (by decide) ?_
        refine lv_istore (lv' := [(8, .int 0), (6, .long 0), (4, .long z_94), (0, .ref o0), (1, .int a1), (2, .int a2), (3, .int a3)]) hx hb dX10_seldom_48 hl (by decide) rfl (fun ls hl => ?_)
        refine loopP (σ := Int32 × Int64) (fun v => (5 - v.1.toInt).toNat) (fun v ls => ((0 : Int) ≤ v.1.toInt ∧ v.1.toInt ≤ 5) ∧ lv_has ls 9 [(8, .int v.1), (6, .long v.2), (4, .long z_94), (0, .ref o0), (1, .int a1), (2, .int a2), (3, .int a3)]) (fun v ls hI ih_50_151 => ?_) ((0 : Int32), (0 : Int64)) ⟨(show (0 : Int) ≤ (0 : Int32).toInt ∧ (0 : Int32).toInt ≤ 5 from (rg_w (by decide : (0 : Int) ≤ (0 : Int32).toInt ∧ (0 : Int32).toInt ≤ 0) (by decide) (by decide))), lv_sub hl [0, 1, 2, 3, 4, 5, 6] rfl⟩
        obtain ⟨y_106, y_107⟩ := v
        obtain ⟨b_y_106, hl⟩ := hI
        have b_y_106 : (0 : Int) ≤ y_106.toInt ∧ y_106.toInt ≤ 5 := b_y_106
        have hl : lv_has ls 9 [(8, .int y_106), (6, .long y_107), (4, .long z_94), (0, .ref o0), (1, .int a1), (2, .int a2), (3, .int a3)] := hl
        refine lv_iload hx hb dX10_seldom_50 (lv_at hl 0 rfl) ?_
        refine lv_iload_n hx hb dX10_seldom_52 rfl (lv_at hl 6 rfl) ?_
        refine lv_icmp_gt (tgt := 98) hx hb dX10_seldom_53 (by decide) (fun c_152 => ?_) (fun c_152 => ?_)
        ·
          have n_c_152 : (a3.toInt : Int) < y_106.toInt := c_gt rfl rfl c_152
          have b_y_106 : (1 : Int) ≤ y_106.toInt ∧ y_106.toInt ≤ 5 := r_lt2 b_a3 b_y_106 n_c_152 (by decide)
          refine lv_lload hx hb dX10_seldom_98 (lv_at hl 1 rfl) ?_
          exact W.lret (v := y_107) hx hb hr (fun t ht hW => ⟨y_107, rfl, trivial, ht⟩) t_nil dX10_seldom_100
        ·
          have n_c_152 : (y_106.toInt : Int) ≤ a3.toInt := c_ngt rfl rfl c_152
          have b_y_106 : (0 : Int) ≤ y_106.toInt ∧ y_106.toInt ≤ 4 := r_le1 b_y_106 b_a3 n_c_152 (by decide)
          refine lv_iload hx hb dX10_seldom_56 (lv_at hl 0 rfl) ?_
          refine lv_iload_n hx hb dX10_seldom_58 rfl (lv_at hl 5 rfl) ?_
          refine lv_icmp_gt (tgt := 98) hx hb dX10_seldom_59 (by decide) (fun c_153 => ?_) (fun c_153 => ?_)
          ·
            have n_c_153 : (a2.toInt : Int) < y_106.toInt := c_gt rfl rfl c_153
            have b_a2 : (1 : Int) ≤ a2.toInt ∧ a2.toInt ≤ 3 := r_lt1 b_a2 b_y_106 n_c_153 (by decide)
            have b_y_106 : (2 : Int) ≤ y_106.toInt ∧ y_106.toInt ≤ 4 := r_lt2 b_a2 b_y_106 n_c_153 (by decide)
            refine lv_lload hx hb dX10_seldom_98 (lv_at hl 1 rfl) ?_
            exact W.lret (v := y_107) hx hb hr (fun t ht hW => ⟨y_107, rfl, trivial, ht⟩) t_nil dX10_seldom_100
          ·
            have n_c_153 : (y_106.toInt : Int) ≤ a2.toInt := c_ngt rfl rfl c_153
            refine lv_lload hx hb dX10_seldom_62 (lv_at hl 1 rfl) ?_
            refine lv_lload hx hb dX10_seldom_64 (lv_at hl 2 rfl) ?_
            refine lv_iload hx hb dX10_seldom_66 (lv_at hl 0 rfl) ?_
            refine vp_callSl (W.runS (As := [.long z_94, .int y_106]) (rest := [.long y_107]) ⟨hx, hb, hml, hown, hts⟩ (kX10_choose l dC dI z_94 y_106 b_y_106) (va_cwS 2 hts gX10_seldom__X10_choose_S418 rfl rfl rfl hd_yX10_choose.2 ⟨lel 1 2 rfl, lel 25 46 rfl⟩) ⟨pn_fb, pn_use⟩ rfl rfl hl.1 rfl (lv_room (Nat.le_of_ble_eq_true rfl)) dX10_seldom_68 ⟨lel 0 0 rfl, lel 0 0 rfl⟩) (fun r_154 h_r_154 => ?_)
            refine lv_aload_n hx hb dX10_seldom_71 rfl (lv_at hl 3 rfl) ?_
            refine va_get (D := (dC, dI)) (ci := 8) (v := .ref mwo) (C := RX10) (T := TX10) (N := 33) hx hb hts iX10_seldom_X10 hown hK hP 0 rfl rfl 1 (by decide) (hts (.fieldLink RX10 9 "LuckyTicketModel" "world" "[I") (List.mem_of_getElem? (i := 14) rfl)) (fun _ h9 => h9) rfl dX10_seldom_72 ?_
            refine lv_iconst (v := 2) hx hb dX10_seldom_75 (by decide) ?_
            refine va_iald hx hb hK hP 1 0 rfl rfl (vp_in_b (by decide : (2 : Int) ≤ (2 : Int32).toInt ∧ (2 : Int32).toInt ≤ 2) (by decide) (by decide)) dX10_seldom_76 ?_
            refine lv_topi (fun z_155 e_z_155 => ?_)
            obtain rfl : tk = z_155 := (e_z_155.trans hw2).symm
            obtain ⟨z_156, e_z_156⟩ : ∃ y : Int64, y = tk.toInt64 := ⟨_, rfl⟩
            refine lv_i2l (v := z_156) hx hb dX10_seldom_77 e_z_156.symm ?_
            obtain ⟨q_z_156, b_z_156⟩ := ti_i2l e_z_156 b_tk
            refine lv_lload hx hb dX10_seldom_78 (lv_at hl 2 rfl) ?_
            refine lv_lsub hx hb dX10_seldom_80 ?_
            refine lv_topl (fun z_157 e_z_157 => ?_)
            obtain ⟨q_z_157, b_z_157⟩ := tl_sub (lo := -20000) (hi := 20000) e_z_157 rfl rfl b_z_156 b_z_94 (by decide)
            refine lv_iload_n hx hb dX10_seldom_81 rfl (lv_at hl 5 rfl) ?_
            refine lv_iload hx hb dX10_seldom_82 (lv_at hl 0 rfl) ?_
            refine lv_isub hx hb dX10_seldom_84 ?_
            refine lv_topi (fun z_158 e_z_158 => ?_)
            obtain ⟨q_z_158, b_z_158⟩ := ti_sub (lo := -3) (hi := 4) e_z_158 rfl rfl b_a2 b_y_106 (by decide)
            refine vp_callSl (W.runS (As := [.long z_157, .int z_158]) (rest := [.long r_154, .long y_107]) ⟨hx, hb, hml, hown, hts⟩ (kX10_choose l dC dI z_157 z_158 ⟨by omega, by omega⟩) (va_cwS 2 hts gX10_seldom__X10_choose_S418 rfl rfl rfl hd_yX10_choose.2 ⟨lel 1 2 rfl, lel 25 46 rfl⟩) ⟨pn_fb, pn_use⟩ rfl rfl hl.1 rfl (lv_room (Nat.le_of_ble_eq_true rfl)) dX10_seldom_85 ⟨lel 0 0 rfl, lel 0 0 rfl⟩) (fun r_159 h_r_159 => ?_)
            refine lv_lmul hx hb dX10_seldom_88 ?_
            refine lv_topl (fun z_160 e_z_160 => ?_)
            refine lv_ladd hx hb dX10_seldom_89 ?_
            refine lv_topl (fun z_161 e_z_161 => ?_)
            refine lv_lstore (lv' := [(6, .long z_161), (8, .int y_106), (4, .long z_94), (0, .ref o0), (1, .int a1), (2, .int a2), (3, .int a3)]) hx hb dX10_seldom_90 hl (by decide) rfl (fun ls hl => ?_)
            obtain ⟨z_162, e_z_162⟩ : ∃ y : Int32, y = y_106 + 1 := ⟨_, rfl⟩
            refine lv_iinc (v := z_162) (lv' := [(8, .int z_162), (6, .long z_161), (4, .long z_94), (0, .ref o0), (1, .int a1), (2, .int a2), (3, .int a3)]) hx hb dX10_seldom_92 hl (k := 1) rfl (by rw [e_z_162]; rfl) (by decide) rfl (fun ls hl => ?_)
            obtain ⟨q_z_162, b_z_162⟩ := ti_add (lo := 1) (hi := 5) e_z_162 rfl (by decide : (1 : Int32).toInt = 1) b_y_106 (by decide : (1 : Int) ≤ (1 : Int32).toInt ∧ (1 : Int32).toInt ≤ 1) (by decide)
            refine lv_goto (tgt := 50) hx hb dX10_seldom_95 (by decide) ?_
            exact ih_50_151 (z_162, z_161) _ ⟨(show (0 : Int) ≤ z_162.toInt ∧ z_162.toInt ≤ 5 from (rg_w b_z_162 (by decide) (by decide))), lv_sub hl [0, 1, 2, 3, 4, 5, 6] rfl⟩ (show (5 - z_162.toInt).toNat < (5 - y_106.toInt).toNat by omega)
      ·
        have n_c_91 : (r_90.toInt : Int) = 0 := c_eq rfl (by decide) c_91
        have b_r_90 : (0 : Int) ≤ r_90.toInt ∧ r_90.toInt ≤ 0 := r_eq1 b_r_90 (by decide : (0 : Int) ≤ (0 : Int32).toInt ∧ (0 : Int32).toInt ≤ 0) n_c_91 (by decide)
        refine lv_ldc2 (v := (-2)) hx hb hown (hts (.constantLong RX10 416 (-2)) (List.mem_of_getElem? (i := 5) rfl)) dX10_seldom_32 ?_
        exact W.lret (v := (-2)) hx hb hr (fun t ht hW => ⟨(-2), rfl, trivial, ht⟩) t_nil dX10_seldom_35
theorem dX10_sets_0 : decode cX10_sets 0 = .ok (.aload_n 0, 1) := by decide +kernel
theorem dX10_sets_1 : decode cX10_sets 1 = .ok (.invokevirtual 355, 3) := by decide +kernel
theorem dX10_sets_4 : decode cX10_sets 4 = .ok (.ifCond .eq 29, 3) := by decide +kernel
theorem dX10_sets_7 : decode cX10_sets 7 = .ok (.iload_n 1, 1) := by decide +kernel
theorem dX10_sets_8 : decode cX10_sets 8 = .ok (.i2l, 1) := by decide +kernel
theorem dX10_sets_9 : decode cX10_sets 9 = .ok (.lconst 0, 1) := by decide +kernel
theorem dX10_sets_10 : decode cX10_sets 10 = .ok (.ldc2_w 414, 3) := by decide +kernel
theorem dX10_sets_13 : decode cX10_sets 13 = .ok (.invokestatic 82, 3) := by decide +kernel
theorem dX10_sets_16 : decode cX10_sets 16 = .ok (.ifCond .eq 17, 3) := by decide +kernel
theorem dX10_sets_19 : decode cX10_sets 19 = .ok (.aload_n 0, 1) := by decide +kernel
theorem dX10_sets_20 : decode cX10_sets 20 = .ok (.getfield 9, 3) := by decide +kernel
theorem dX10_sets_23 : decode cX10_sets 23 = .ok (.iconst 2, 1) := by decide +kernel
theorem dX10_sets_24 : decode cX10_sets 24 = .ok (.iaload, 1) := by decide +kernel
theorem dX10_sets_25 : decode cX10_sets 25 = .ok (.i2l, 1) := by decide +kernel
theorem dX10_sets_26 : decode cX10_sets 26 = .ok (.iload_n 1, 1) := by decide +kernel
theorem dX10_sets_27 : decode cX10_sets 27 = .ok (.invokestatic 418, 3) := by decide +kernel
theorem dX10_sets_30 : decode cX10_sets 30 = .ok (.goto 6, 3) := by decide +kernel
theorem dX10_sets_33 : decode cX10_sets 33 = .ok (.ldc2_w 416, 3) := by decide +kernel
theorem dX10_sets_36 : decode cX10_sets 36 = .ok (.lreturn, 1) := by decide +kernel
theorem hd_yX10_sets : yX10_sets.cls = RX10 ∧ yX10_sets.cls ≠ "java/lang/invoke/MethodHandle" ∧ yX10_sets.cls ≠ "java/lang/invoke/VarHandle" ∧ (parseMethodDescriptor yX10_sets.desc).map (fun d => d.parameters.length) = some 1 := by decide +kernel
def uX10_sets : List Cond := List.cons (.code yX10_sets cX10_sets 2 (some .long)) (HAppend.hAppend ([.methodLink RX10 355 yX10_isRoll, .instanceMethod yX10_isRoll, .selects RX10 yX10_isRoll yX10_isRoll, .initialized RX10, .constantLong RX10 416 (-2), .constantLong RX10 414 (4), .methodLink RX10 82 yX10_in, .static yX10_in, .fieldLink RX10 9 "LuckyTicketModel" "world" "[I", .methodLink RX10 418 yX10_choose, .static yX10_choose] : List Cond) (HAppend.hAppend uX10_isRoll (HAppend.hAppend uX10_in (HAppend.hAppend uX10_choose wsX100))))
theorem iX10_sets_X10 : ∀ w ∈ wsX100, w ∈ uX10_sets := fun _ h => (List.mem_cons_of_mem _ (List.mem_append_right _ (List.mem_append_right _ (List.mem_append_right _ (List.mem_append_right _ h)))))
theorem guX10_sets : GU uX10_sets := gu_cons (gu_app (by decide +kernel) (gu_ap guX10_isRoll (gu_ap guX10_in (gu_ap guX10_choose gws_X10))))
theorem gX10_sets__X10_isRoll_V355 : GoodIn uX10_sets (wsV RX10 355 RX10 yX10_isRoll uX10_isRoll) := gin_V (List.mem_of_getElem? (i := 1) rfl) (List.mem_of_getElem? (i := 2) rfl) (List.mem_of_getElem? (i := 3) rfl) (List.mem_of_getElem? (i := 4) rfl) (fun _ h => (List.mem_cons_of_mem _ (List.mem_append_right _ (List.mem_append_left _ h)))) guX10_isRoll
theorem gX10_sets__X10_in_S82 : GoodIn uX10_sets (va_wsS RX10 82 yX10_in uX10_in) := gin_S (List.mem_of_getElem? (i := 7) rfl) (List.mem_of_getElem? (i := 8) rfl) (List.mem_of_getElem? (i := 4) rfl) (fun _ h => (List.mem_cons_of_mem _ (List.mem_append_right _ (List.mem_append_right _ (List.mem_append_left _ h))))) guX10_in
theorem gX10_sets__X10_choose_S418 : GoodIn uX10_sets (va_wsS RX10 418 yX10_choose uX10_choose) := gin_S (List.mem_of_getElem? (i := 10) rfl) (List.mem_of_getElem? (i := 11) rfl) (List.mem_of_getElem? (i := 4) rfl) (fun _ h => (List.mem_cons_of_mem _ (List.mem_append_right _ (List.mem_append_right _ (List.mem_append_right _ (List.mem_append_left _ h)))))) guX10_choose
set_option maxHeartbeats 4000000 in
set_option maxRecDepth 100000 in
theorem kX10_sets (l : Launch) (dC : Nat → ClassId) (dI : Nat → Nat → Nat) (o0 : Nat) (x_th : Int32) (mwo : Nat) (mim : Nat) (mhi : Nat) (mlu : Nat) (mtp : Nat) (x_td : Int32) (mfv : Nat) (x_sz : Int32) (x_at : Int32) (x_fr : Int32) (x_to : Int32) (x_va : Int32) (x_fk : Int32) (x_fp : Int32) (mfr : Nat) (mwt : Nat) (x_wt : Int32) (x_op : Int32) (x_jo : Int32) (mfg : Nat) (mpl : Nat) (x_dr : Int64) (mtm : Nat) (mfa : Nat) (mqu : Nat) (mmo : Nat) (mwy : Nat) (mwn : Nat) (mma : Nat) (mwi : Nat) (mnu : Nat) (mmv : Nat) (c_wo : ClassId) (w_wo : Nat → Int32) (ln : Int32) (bs : Int32) (tk : Int32) (lw : Int32) (li : Int32) (a1 : Int32) (b_ln : (0 : Int) ≤ ln.toInt ∧ ln.toInt ≤ 12) (b_bs : (0 : Int) ≤ bs.toInt ∧ bs.toInt ≤ 16) (b_tk : (0 : Int) ≤ tk.toInt ∧ tk.toInt ≤ 20000) (b_lw : (0 : Int) ≤ lw.toInt ∧ lw.toInt ≤ 9) (hw0 : w_wo 0 = ln) (hw1 : w_wo 1 = bs) (hw2 : w_wo 2 = tk) (hw3 : w_wo 3 = lw) (hw4 : w_wo 4 = li) (hwz : (ln.toInt = 0 ∧ bs.toInt = 0 ∧ tk.toInt = 0 ∧ lw.toInt = 0) ∨ (1 ≤ ln.toInt ∧ 2 ≤ bs.toInt ∧ 1 ≤ tk.toInt)) : Met l yX10_sets uX10_sets ({ frames := 1, cells := 0, slots := 0, locals := 25 }) (va_Pc [.ref o0, .int a1] (pw (dC, dI) vwCl [(o0, .inr (8, [.int x_th, .ref mwo, .ref mim, .ref mhi, .ref mlu, .ref mtp, .int x_td, .ref mfv, .int x_sz, .int x_at, .int x_fr, .int x_to, .int x_va, .int x_fk, .int x_fp, .ref mfr, .ref mwt, .int x_wt, .int x_op, .int x_jo, .ref mfg, .ref mpl, .long x_dr, .ref mtm, .ref mfa, .ref mqu, .ref mmo, .ref mwy, .ref mwn, .ref mma, .ref mwi, .ref mnu, .ref mmv])), (mwo, .inl (c_wo, 1875, .inl w_wo))] [(c_wo, .int)])) (vp_Sl (fun r => True)) 0 0 (fun _ => False) := by
  refine Met.ofW (cc := cX10_sets) (maxL := 2) (ret := (some .long)) pn_X10 rfl ?_
  intro p e s m args below meth c s₁ B hml hv
  obtain ⟨rfl, hP, hK, hN⟩ := hv
  have hx := B.exec
  have hb := B.bytes
  have hr := B.returns
  have hts := atoms_spec (ws := uX10_sets) B.pre
  have hown : s.vm.findClass RX10 = some m.cls := hown_of B.named rfl
  have hlocks := B.notSynchronized
  have hl := lv_entry ([.ref o0, .int a1]) (n := 2) (Nat.le_of_ble_eq_true rfl)
  rw [lg_entry_eq]
  generalize (lg_sl ([.ref o0, .int a1]) ++ List.replicate (2 - (lg_sl ([.ref o0, .int a1])).length) Slot.unset).toArray = ls at hl ⊢
  have hl : lv_has ls 2 [(0, .ref o0), (1, .int a1)] := hl
  refine lv_aload_n hx hb dX10_sets_0 rfl (lv_at hl 0 rfl) ?_
  refine vp_callSi (W.runV (As := []) (rest := []) ⟨hx, hb, hml, hown, hts⟩ (kX10_isRoll l dC dI o0 x_th mwo mim mhi mlu mtp x_td mfv x_sz x_at x_fr x_to x_va x_fk x_fp mfr mwt x_wt x_op x_jo mfg mpl x_dr mtm mfa mqu mmo mwy mwn mma mwi mnu mmv c_wo w_wo ln bs tk lw li b_ln b_bs b_tk b_lw (hw0) (hw1) (hw2) (hw3) (hw4) (hwz)) (cwV 0 hts gX10_sets__X10_isRoll_V355 rfl rfl rfl hd_yX10_isRoll ⟨lel 1 1 rfl, lel 20 25 rfl⟩) ⟨pw_fb, rcv_X10 hK hP (q0 := 0) rfl, (pw_use hP hK hN [0, 1] rfl [0] rfl)⟩ rfl rfl hl.1 rfl (lv_room (Nat.le_of_ble_eq_true rfl)) dX10_sets_1 ⟨lel 0 0 rfl, lel 0 0 rfl⟩) (fun r_11 h_r_11 => ?_)
  obtain ⟨b_r_11, nz_r_11⟩ := h_r_11
  have b_r_11 : (0 : Int) ≤ r_11.toInt ∧ r_11.toInt ≤ 1 := b_r_11
  refine lv_if_eq (tgt := 33) hx hb dX10_sets_4 (by decide) (fun c_12 => ?_) (fun c_12 => ?_)
  ·
    have n_c_12 : (r_11.toInt : Int) = 0 := c_eq rfl (by decide) c_12
    have b_r_11 : (0 : Int) ≤ r_11.toInt ∧ r_11.toInt ≤ 0 := r_eq1 b_r_11 (by decide : (0 : Int) ≤ (0 : Int32).toInt ∧ (0 : Int32).toInt ≤ 0) n_c_12 (by decide)
    refine lv_ldc2 (v := (-2)) hx hb hown (hts (.constantLong RX10 416 (-2)) (List.mem_of_getElem? (i := 5) rfl)) dX10_sets_33 ?_
    exact W.lret (v := (-2)) hx hb hr (fun t ht hW => ⟨(-2), rfl, trivial, ht⟩) t_nil dX10_sets_36
  ·
    have n_c_12 : (r_11.toInt : Int) ≠ 0 := c_ne rfl (by decide) c_12
    have b_r_11 : (1 : Int) ≤ r_11.toInt ∧ r_11.toInt ≤ 1 := r_ne1 b_r_11 (by decide : (0 : Int) ≤ (0 : Int32).toInt ∧ (0 : Int32).toInt ≤ 0) n_c_12 (by decide)
    obtain ⟨b_ln, g_13⟩ := nz_r_11 c_12
    refine lv_iload_n hx hb dX10_sets_7 rfl (lv_at hl 1 rfl) ?_
    obtain ⟨z_14, e_z_14⟩ : ∃ y : Int64, y = a1.toInt64 := ⟨_, rfl⟩
    refine lv_i2l (v := z_14) hx hb dX10_sets_8 e_z_14.symm ?_
    obtain ⟨q_z_14, b_z_14⟩ := ti_i2l e_z_14 (ti_rng a1)
    refine lv_lconst (v := 0) hx hb dX10_sets_9 (by decide) ?_
    refine lv_ldc2 (v := 4) hx hb hown (hts (.constantLong RX10 414 (4)) (List.mem_of_getElem? (i := 6) rfl)) dX10_sets_10 ?_
    refine vp_callSi (W.runS (As := [.long z_14, .long 0, .long 4]) (rest := []) ⟨hx, hb, hml, hown, hts⟩ (kX10_in l dC dI z_14 0 4 ) (va_cwS 3 hts gX10_sets__X10_in_S82 rfl rfl rfl hd_yX10_in.2 ⟨lel 1 1 rfl, lel 25 25 rfl⟩) ⟨pn_fb, pn_use⟩ rfl rfl hl.1 rfl (lv_room (Nat.le_of_ble_eq_true rfl)) dX10_sets_13 ⟨lel 0 0 rfl, lel 0 0 rfl⟩) (fun r_15 h_r_15 => ?_)
    obtain ⟨b_r_15, nz_r_15⟩ := h_r_15
    have b_r_15 : (0 : Int) ≤ r_15.toInt ∧ r_15.toInt ≤ 1 := b_r_15
    refine lv_if_eq (tgt := 33) hx hb dX10_sets_16 (by decide) (fun c_16 => ?_) (fun c_16 => ?_)
    ·
      have n_c_16 : (r_15.toInt : Int) = 0 := c_eq rfl (by decide) c_16
      have b_r_15 : (0 : Int) ≤ r_15.toInt ∧ r_15.toInt ≤ 0 := r_eq1 b_r_15 (by decide : (0 : Int) ≤ (0 : Int32).toInt ∧ (0 : Int32).toInt ≤ 0) n_c_16 (by decide)
      refine lv_ldc2 (v := (-2)) hx hb hown (hts (.constantLong RX10 416 (-2)) (List.mem_of_getElem? (i := 5) rfl)) dX10_sets_33 ?_
      exact W.lret (v := (-2)) hx hb hr (fun t ht hW => ⟨(-2), rfl, trivial, ht⟩) t_nil dX10_sets_36
    ·
      have n_c_16 : (r_15.toInt : Int) ≠ 0 := c_ne rfl (by decide) c_16
      have b_r_15 : (1 : Int) ≤ r_15.toInt ∧ r_15.toInt ≤ 1 := r_ne1 b_r_15 (by decide : (0 : Int) ≤ (0 : Int32).toInt ∧ (0 : Int32).toInt ≤ 0) n_c_16 (by decide)
      have g_17 := nz_r_15 c_16
      have lt0_g_17 := (by decide : (0 : Int64).toInt = 0)
      have lt1_g_17 := (by decide : (4 : Int64).toInt = 4)
      have b_z_14 : (0 : Int) ≤ z_14.toInt ∧ z_14.toInt ≤ 4 := by
        have q0 := b_z_14
        have q1 := (by decide : (0 : Int) ≤ (0 : Int64).toInt ∧ (0 : Int64).toInt ≤ 0)
        have q2 := (by decide : (4 : Int) ≤ (4 : Int64).toInt ∧ (4 : Int64).toInt ≤ 4)
        omega
      have b_a1 : (0 : Int) ≤ a1.toInt ∧ a1.toInt ≤ 4 := by
        have q0 := b_z_14; have q1 := q_z_14; have q2 := (ti_rng a1); omega
      refine lv_aload_n hx hb dX10_sets_19 rfl (lv_at hl 0 rfl) ?_
      refine va_get (D := (dC, dI)) (ci := 8) (v := .ref mwo) (C := RX10) (T := TX10) (N := 33) hx hb hts iX10_sets_X10 hown hK hP 0 rfl rfl 1 (by decide) (hts (.fieldLink RX10 9 "LuckyTicketModel" "world" "[I") (List.mem_of_getElem? (i := 9) rfl)) (fun _ h9 => h9) rfl dX10_sets_20 ?_
      refine lv_iconst (v := 2) hx hb dX10_sets_23 (by decide) ?_
      refine va_iald hx hb hK hP 1 0 rfl rfl (vp_in_b (by decide : (2 : Int) ≤ (2 : Int32).toInt ∧ (2 : Int32).toInt ≤ 2) (by decide) (by decide)) dX10_sets_24 ?_
      refine lv_topi (fun z_18 e_z_18 => ?_)
      obtain rfl : tk = z_18 := (e_z_18.trans hw2).symm
      obtain ⟨z_19, e_z_19⟩ : ∃ y : Int64, y = tk.toInt64 := ⟨_, rfl⟩
      refine lv_i2l (v := z_19) hx hb dX10_sets_25 e_z_19.symm ?_
      obtain ⟨q_z_19, b_z_19⟩ := ti_i2l e_z_19 b_tk
      refine lv_iload_n hx hb dX10_sets_26 rfl (lv_at hl 1 rfl) ?_
      refine vp_callSl (W.runS (As := [.long z_19, .int a1]) (rest := []) ⟨hx, hb, hml, hown, hts⟩ (kX10_choose l dC dI z_19 a1 b_a1) (va_cwS 2 hts gX10_sets__X10_choose_S418 rfl rfl rfl hd_yX10_choose.2 ⟨lel 1 1 rfl, lel 25 25 rfl⟩) ⟨pn_fb, pn_use⟩ rfl rfl hl.1 rfl (lv_room (Nat.le_of_ble_eq_true rfl)) dX10_sets_27 ⟨lel 0 0 rfl, lel 0 0 rfl⟩) (fun r_20 h_r_20 => ?_)
      refine lv_goto (tgt := 36) hx hb dX10_sets_30 (by decide) ?_
      exact W.lret (v := r_20) hx hb hr (fun t ht hW => ⟨r_20, rfl, trivial, ht⟩) t_nil dX10_sets_36
theorem dX10_isSale_0 : decode cX10_isSale 0 = .ok (.aload_n 0, 1) := by decide +kernel
theorem dX10_isSale_1 : decode cX10_isSale 1 = .ok (.iload_n 1, 1) := by decide +kernel
theorem dX10_isSale_2 : decode cX10_isSale 2 = .ok (.invokevirtual 89, 3) := by decide +kernel
theorem dX10_isSale_5 : decode cX10_isSale 5 = .ok (.ifCond .eq 26, 3) := by decide +kernel
theorem dX10_isSale_8 : decode cX10_isSale 8 = .ok (.iload_n 2, 1) := by decide +kernel
theorem dX10_isSale_9 : decode cX10_isSale 9 = .ok (.invokestatic 404, 3) := by decide +kernel
theorem dX10_isSale_12 : decode cX10_isSale 12 = .ok (.ifCond .eq 19, 3) := by decide +kernel
theorem dX10_isSale_15 : decode cX10_isSale 15 = .ok (.iload_n 3, 1) := by decide +kernel
theorem dX10_isSale_16 : decode cX10_isSale 16 = .ok (.i2l, 1) := by decide +kernel
theorem dX10_isSale_17 : decode cX10_isSale 17 = .ok (.lconst 1, 1) := by decide +kernel
theorem dX10_isSale_18 : decode cX10_isSale 18 = .ok (.ldc2_w 346, 3) := by decide +kernel
theorem dX10_isSale_21 : decode cX10_isSale 21 = .ok (.invokestatic 82, 3) := by decide +kernel
theorem dX10_isSale_24 : decode cX10_isSale 24 = .ok (.ifCond .eq 7, 3) := by decide +kernel
theorem dX10_isSale_27 : decode cX10_isSale 27 = .ok (.iconst 1, 1) := by decide +kernel
theorem dX10_isSale_28 : decode cX10_isSale 28 = .ok (.goto 4, 3) := by decide +kernel
theorem dX10_isSale_31 : decode cX10_isSale 31 = .ok (.iconst 0, 1) := by decide +kernel
theorem dX10_isSale_32 : decode cX10_isSale 32 = .ok (.ireturn, 1) := by decide +kernel
theorem hd_yX10_isSale : yX10_isSale.cls = RX10 ∧ yX10_isSale.cls ≠ "java/lang/invoke/MethodHandle" ∧ yX10_isSale.cls ≠ "java/lang/invoke/VarHandle" ∧ (parseMethodDescriptor yX10_isSale.desc).map (fun d => d.parameters.length) = some 3 := by decide +kernel
def uX10_isSale : List Cond := List.cons (.code yX10_isSale cX10_isSale 4 (some .boolean)) (HAppend.hAppend ([.methodLink RX10 89 yX10_isLaw, .instanceMethod yX10_isLaw, .selects RX10 yX10_isLaw yX10_isLaw, .initialized RX10, .methodLink RX10 404 yX10_isSeed, .static yX10_isSeed, .constantLong RX10 346 (60), .methodLink RX10 82 yX10_in, .static yX10_in] : List Cond) (HAppend.hAppend uX10_isLaw (HAppend.hAppend uX10_isSeed uX10_in)))
theorem guX10_isSale : GU uX10_isSale := gu_cons (gu_app (by decide +kernel) (gu_ap guX10_isLaw (gu_ap guX10_isSeed guX10_in)))
theorem gX10_isSale__X10_isLaw_V89 : GoodIn uX10_isSale (wsV RX10 89 RX10 yX10_isLaw uX10_isLaw) := gin_V (List.mem_of_getElem? (i := 1) rfl) (List.mem_of_getElem? (i := 2) rfl) (List.mem_of_getElem? (i := 3) rfl) (List.mem_of_getElem? (i := 4) rfl) (fun _ h => (List.mem_cons_of_mem _ (List.mem_append_right _ (List.mem_append_left _ h)))) guX10_isLaw
theorem gX10_isSale__X10_isSeed_S404 : GoodIn uX10_isSale (va_wsS RX10 404 yX10_isSeed uX10_isSeed) := gin_S (List.mem_of_getElem? (i := 5) rfl) (List.mem_of_getElem? (i := 6) rfl) (List.mem_of_getElem? (i := 4) rfl) (fun _ h => (List.mem_cons_of_mem _ (List.mem_append_right _ (List.mem_append_right _ (List.mem_append_left _ h))))) guX10_isSeed
theorem gX10_isSale__X10_in_S82 : GoodIn uX10_isSale (va_wsS RX10 82 yX10_in uX10_in) := gin_S (List.mem_of_getElem? (i := 8) rfl) (List.mem_of_getElem? (i := 9) rfl) (List.mem_of_getElem? (i := 4) rfl) (fun _ h => (List.mem_cons_of_mem _ (List.mem_append_right _ (List.mem_append_right _ (List.mem_append_right _ h))))) guX10_in
set_option maxHeartbeats 4000000 in
set_option maxRecDepth 100000 in
theorem kX10_isSale (l : Launch) (dC : Nat → ClassId) (dI : Nat → Nat → Nat) (o0 : Nat) (x_th : Int32) (mwo : Nat) (mim : Nat) (mhi : Nat) (mlu : Nat) (mtp : Nat) (x_td : Int32) (mfv : Nat) (x_sz : Int32) (x_at : Int32) (x_fr : Int32) (x_to : Int32) (x_va : Int32) (x_fk : Int32) (x_fp : Int32) (mfr : Nat) (mwt : Nat) (x_wt : Int32) (x_op : Int32) (x_jo : Int32) (mfg : Nat) (mpl : Nat) (x_dr : Int64) (mtm : Nat) (mfa : Nat) (mqu : Nat) (mmo : Nat) (mwy : Nat) (mwn : Nat) (mma : Nat) (mwi : Nat) (mnu : Nat) (mmv : Nat) (c_wo : ClassId) (w_wo : Nat → Int32) (ln : Int32) (bs : Int32) (tk : Int32) (lw : Int32) (li : Int32) (a1 : Int32) (a2 : Int32) (a3 : Int32) (b_ln : (0 : Int) ≤ ln.toInt ∧ ln.toInt ≤ 12) (b_bs : (0 : Int) ≤ bs.toInt ∧ bs.toInt ≤ 16) (b_tk : (0 : Int) ≤ tk.toInt ∧ tk.toInt ≤ 20000) (b_lw : (0 : Int) ≤ lw.toInt ∧ lw.toInt ≤ 9) (hw0 : w_wo 0 = ln) (hw1 : w_wo 1 = bs) (hw2 : w_wo 2 = tk) (hw3 : w_wo 3 = lw) (hw4 : w_wo 4 = li) (hwz : (ln.toInt = 0 ∧ bs.toInt = 0 ∧ tk.toInt = 0 ∧ lw.toInt = 0) ∨ (1 ≤ ln.toInt ∧ 2 ≤ bs.toInt ∧ 1 ≤ tk.toInt)) : Met l yX10_isSale uX10_isSale ({ frames := 2, cells := 0, slots := 0, locals := 46 }) (va_Pc [.ref o0, .int a1, .int a2, .int a3] (pw (dC, dI) vwCl [(o0, .inr (8, [.int x_th, .ref mwo, .ref mim, .ref mhi, .ref mlu, .ref mtp, .int x_td, .ref mfv, .int x_sz, .int x_at, .int x_fr, .int x_to, .int x_va, .int x_fk, .int x_fp, .ref mfr, .ref mwt, .int x_wt, .int x_op, .int x_jo, .ref mfg, .ref mpl, .long x_dr, .ref mtm, .ref mfa, .ref mqu, .ref mmo, .ref mwy, .ref mwn, .ref mma, .ref mwi, .ref mnu, .ref mmv])), (mwo, .inl (c_wo, 1875, .inl w_wo))] [(c_wo, .int)])) (vp_Si (fun r => ((0 : Int) ≤ r.toInt ∧ r.toInt ≤ 1) ∧ (r ≠ 0 → ((0 : Int) ≤ a1.toInt ∧ a1.toInt ≤ 8) ∧ ((0 : Int) ≤ a2.toInt ∧ a2.toInt ≤ 2000000000) ∧ ((1 : Int) ≤ a3.toInt ∧ a3.toInt ≤ 60) ∧ (a1.toInt < lw.toInt ∧ 1 ≤ tk.toInt)))) 0 0 (fun _ => False) := by
  refine Met.ofW (cc := cX10_isSale) (maxL := 4) (ret := (some .boolean)) pn_X10 rfl ?_
  intro p e s m args below meth c s₁ B hml hv
  obtain ⟨rfl, hP, hK, hN⟩ := hv
  have hx := B.exec
  have hb := B.bytes
  have hr := B.returns
  have hts := atoms_spec (ws := uX10_isSale) B.pre
  have hown : s.vm.findClass RX10 = some m.cls := hown_of B.named rfl
  have hlocks := B.notSynchronized
  have hl := lv_entry ([.ref o0, .int a1, .int a2, .int a3]) (n := 4) (Nat.le_of_ble_eq_true rfl)
  rw [lg_entry_eq]
  generalize (lg_sl ([.ref o0, .int a1, .int a2, .int a3]) ++ List.replicate (4 - (lg_sl ([.ref o0, .int a1, .int a2, .int a3])).length) Slot.unset).toArray = ls at hl ⊢
  have hl : lv_has ls 4 [(0, .ref o0), (1, .int a1), (2, .int a2), (3, .int a3)] := hl
  refine lv_aload_n hx hb dX10_isSale_0 rfl (lv_at hl 0 rfl) ?_
  refine lv_iload_n hx hb dX10_isSale_1 rfl (lv_at hl 1 rfl) ?_
  refine vp_callSi (W.runV (As := [.int a1]) (rest := []) ⟨hx, hb, hml, hown, hts⟩ (kX10_isLaw l dC dI o0 x_th mwo mim mhi mlu mtp x_td mfv x_sz x_at x_fr x_to x_va x_fk x_fp mfr mwt x_wt x_op x_jo mfg mpl x_dr mtm mfa mqu mmo mwy mwn mma mwi mnu mmv c_wo w_wo ln bs tk lw li a1 b_ln b_bs b_tk b_lw (hw0) (hw1) (hw2) (hw3) (hw4) (hwz)) (cwV 1 hts gX10_isSale__X10_isLaw_V89 rfl rfl rfl hd_yX10_isLaw ⟨lel 2 2 rfl, lel 46 46 rfl⟩) ⟨pw_fb, rcv_X10 hK hP (q0 := 0) rfl, (pw_use hP hK hN [0, 1] rfl [0] rfl)⟩ rfl rfl hl.1 rfl (lv_room (Nat.le_of_ble_eq_true rfl)) dX10_isSale_2 ⟨lel 0 0 rfl, lel 0 0 rfl⟩) (fun r_11 h_r_11 => ?_)
  obtain ⟨b_r_11, nz_r_11⟩ := h_r_11
  have b_r_11 : (0 : Int) ≤ r_11.toInt ∧ r_11.toInt ≤ 1 := b_r_11
  refine lv_if_eq (tgt := 31) hx hb dX10_isSale_5 (by decide) (fun c_12 => ?_) (fun c_12 => ?_)
  ·
    have n_c_12 : (r_11.toInt : Int) = 0 := c_eq rfl (by decide) c_12
    have b_r_11 : (0 : Int) ≤ r_11.toInt ∧ r_11.toInt ≤ 0 := r_eq1 b_r_11 (by decide : (0 : Int) ≤ (0 : Int32).toInt ∧ (0 : Int32).toInt ≤ 0) n_c_12 (by decide)
    refine lv_iconst (v := 0) hx hb dX10_isSale_31 (by decide) ?_
    exact W.zret (v := 0) hx hb hr rfl (fun t ht hW => ⟨0, rfl, ⟨(rg_w (by decide : (0 : Int) ≤ (0 : Int32).toInt ∧ (0 : Int32).toInt ≤ 0) (by decide) (by decide)), (fun h9 => absurd rfl h9)⟩, ht⟩) t_nil dX10_isSale_32
  ·
    have n_c_12 : (r_11.toInt : Int) ≠ 0 := c_ne rfl (by decide) c_12
    have b_r_11 : (1 : Int) ≤ r_11.toInt ∧ r_11.toInt ≤ 1 := r_ne1 b_r_11 (by decide : (0 : Int) ≤ (0 : Int32).toInt ∧ (0 : Int32).toInt ≤ 0) n_c_12 (by decide)
    obtain ⟨b_a1, g_13⟩ := nz_r_11 c_12
    refine lv_iload_n hx hb dX10_isSale_8 rfl (lv_at hl 2 rfl) ?_
    refine vp_callSi (W.runS (As := [.int a2]) (rest := []) ⟨hx, hb, hml, hown, hts⟩ (kX10_isSeed l dC dI a2 ) (va_cwS 1 hts gX10_isSale__X10_isSeed_S404 rfl rfl rfl hd_yX10_isSeed.2 ⟨lel 2 2 rfl, lel 45 46 rfl⟩) ⟨pn_fb, pn_use⟩ rfl rfl hl.1 rfl (lv_room (Nat.le_of_ble_eq_true rfl)) dX10_isSale_9 ⟨lel 0 0 rfl, lel 0 0 rfl⟩) (fun r_14 h_r_14 => ?_)
    obtain ⟨b_r_14, nz_r_14⟩ := h_r_14
    have b_r_14 : (0 : Int) ≤ r_14.toInt ∧ r_14.toInt ≤ 1 := b_r_14
    refine lv_if_eq (tgt := 31) hx hb dX10_isSale_12 (by decide) (fun c_15 => ?_) (fun c_15 => ?_)
    ·
      have n_c_15 : (r_14.toInt : Int) = 0 := c_eq rfl (by decide) c_15
      have b_r_14 : (0 : Int) ≤ r_14.toInt ∧ r_14.toInt ≤ 0 := r_eq1 b_r_14 (by decide : (0 : Int) ≤ (0 : Int32).toInt ∧ (0 : Int32).toInt ≤ 0) n_c_15 (by decide)
      refine lv_iconst (v := 0) hx hb dX10_isSale_31 (by decide) ?_
      exact W.zret (v := 0) hx hb hr rfl (fun t ht hW => ⟨0, rfl, ⟨(rg_w (by decide : (0 : Int) ≤ (0 : Int32).toInt ∧ (0 : Int32).toInt ≤ 0) (by decide) (by decide)), (fun h9 => absurd rfl h9)⟩, ht⟩) t_nil dX10_isSale_32
    ·
      have n_c_15 : (r_14.toInt : Int) ≠ 0 := c_ne rfl (by decide) c_15
      have b_r_14 : (1 : Int) ≤ r_14.toInt ∧ r_14.toInt ≤ 1 := r_ne1 b_r_14 (by decide : (0 : Int) ≤ (0 : Int32).toInt ∧ (0 : Int32).toInt ≤ 0) n_c_15 (by decide)
      obtain ⟨b_a2, g_16⟩ := nz_r_14 c_15
      refine lv_iload_n hx hb dX10_isSale_15 rfl (lv_at hl 3 rfl) ?_
      obtain ⟨z_17, e_z_17⟩ : ∃ y : Int64, y = a3.toInt64 := ⟨_, rfl⟩
      refine lv_i2l (v := z_17) hx hb dX10_isSale_16 e_z_17.symm ?_
      obtain ⟨q_z_17, b_z_17⟩ := ti_i2l e_z_17 (ti_rng a3)
      refine lv_lconst (v := 1) hx hb dX10_isSale_17 (by decide) ?_
      refine lv_ldc2 (v := 60) hx hb hown (hts (.constantLong RX10 346 (60)) (List.mem_of_getElem? (i := 7) rfl)) dX10_isSale_18 ?_
      refine vp_callSi (W.runS (As := [.long z_17, .long 1, .long 60]) (rest := []) ⟨hx, hb, hml, hown, hts⟩ (kX10_in l dC dI z_17 1 60 ) (va_cwS 3 hts gX10_isSale__X10_in_S82 rfl rfl rfl hd_yX10_in.2 ⟨lel 1 2 rfl, lel 25 46 rfl⟩) ⟨pn_fb, pn_use⟩ rfl rfl hl.1 rfl (lv_room (Nat.le_of_ble_eq_true rfl)) dX10_isSale_21 ⟨lel 0 0 rfl, lel 0 0 rfl⟩) (fun r_18 h_r_18 => ?_)
      obtain ⟨b_r_18, nz_r_18⟩ := h_r_18
      have b_r_18 : (0 : Int) ≤ r_18.toInt ∧ r_18.toInt ≤ 1 := b_r_18
      refine lv_if_eq (tgt := 31) hx hb dX10_isSale_24 (by decide) (fun c_19 => ?_) (fun c_19 => ?_)
      ·
        have n_c_19 : (r_18.toInt : Int) = 0 := c_eq rfl (by decide) c_19
        have b_r_18 : (0 : Int) ≤ r_18.toInt ∧ r_18.toInt ≤ 0 := r_eq1 b_r_18 (by decide : (0 : Int) ≤ (0 : Int32).toInt ∧ (0 : Int32).toInt ≤ 0) n_c_19 (by decide)
        refine lv_iconst (v := 0) hx hb dX10_isSale_31 (by decide) ?_
        exact W.zret (v := 0) hx hb hr rfl (fun t ht hW => ⟨0, rfl, ⟨(rg_w (by decide : (0 : Int) ≤ (0 : Int32).toInt ∧ (0 : Int32).toInt ≤ 0) (by decide) (by decide)), (fun h9 => absurd rfl h9)⟩, ht⟩) t_nil dX10_isSale_32
      ·
        have n_c_19 : (r_18.toInt : Int) ≠ 0 := c_ne rfl (by decide) c_19
        have b_r_18 : (1 : Int) ≤ r_18.toInt ∧ r_18.toInt ≤ 1 := r_ne1 b_r_18 (by decide : (0 : Int) ≤ (0 : Int32).toInt ∧ (0 : Int32).toInt ≤ 0) n_c_19 (by decide)
        have g_20 := nz_r_18 c_19
        have lt0_g_20 := (by decide : (1 : Int64).toInt = 1)
        have lt1_g_20 := (by decide : (60 : Int64).toInt = 60)
        have b_z_17 : (1 : Int) ≤ z_17.toInt ∧ z_17.toInt ≤ 60 := by
          have q0 := b_z_17
          have q1 := (by decide : (1 : Int) ≤ (1 : Int64).toInt ∧ (1 : Int64).toInt ≤ 1)
          have q2 := (by decide : (60 : Int) ≤ (60 : Int64).toInt ∧ (60 : Int64).toInt ≤ 60)
          omega
        have b_a3 : (1 : Int) ≤ a3.toInt ∧ a3.toInt ≤ 60 := by
          have q0 := b_z_17; have q1 := q_z_17; have q2 := (ti_rng a3); omega
        refine lv_iconst (v := 1) hx hb dX10_isSale_27 (by decide) ?_
        refine lv_goto (tgt := 32) hx hb dX10_isSale_28 (by decide) ?_
        exact W.zret (v := 1) hx hb hr rfl (fun t ht hW => ⟨1, rfl, ⟨(rg_w (by decide : (1 : Int) ≤ (1 : Int32).toInt ∧ (1 : Int32).toInt ≤ 1) (by decide) (by decide)), (fun _ => ⟨⟨by omega, by omega⟩, ⟨by omega, by omega⟩, ⟨by omega, by omega⟩, (by omega)⟩)⟩, ht⟩) t_nil dX10_isSale_32
theorem dX10_between_0 : decode cX10_between 0 = .ok (.aload_n 0, 1) := by decide +kernel
theorem dX10_between_1 : decode cX10_between 1 = .ok (.iload_n 1, 1) := by decide +kernel
theorem dX10_between_2 : decode cX10_between 2 = .ok (.iload_n 2, 1) := by decide +kernel
theorem dX10_between_3 : decode cX10_between 3 = .ok (.invokevirtual 313, 3) := by decide +kernel
theorem dX10_between_6 : decode cX10_between 6 = .ok (.ifCond .eq 40, 3) := by decide +kernel
theorem dX10_between_9 : decode cX10_between 9 = .ok (.iload_n 3, 1) := by decide +kernel
theorem dX10_between_10 : decode cX10_between 10 = .ok (.i2l, 1) := by decide +kernel
theorem dX10_between_11 : decode cX10_between 11 = .ok (.iload_n 2, 1) := by decide +kernel
theorem dX10_between_12 : decode cX10_between 12 = .ok (.i2l, 1) := by decide +kernel
theorem dX10_between_13 : decode cX10_between 13 = .ok (.aload_n 0, 1) := by decide +kernel
theorem dX10_between_14 : decode cX10_between 14 = .ok (.getfield 9, 3) := by decide +kernel
theorem dX10_between_17 : decode cX10_between 17 = .ok (.iconst 2, 1) := by decide +kernel
theorem dX10_between_18 : decode cX10_between 18 = .ok (.iaload, 1) := by decide +kernel
theorem dX10_between_19 : decode cX10_between 19 = .ok (.iconst 1, 1) := by decide +kernel
theorem dX10_between_20 : decode cX10_between 20 = .ok (.isub, 1) := by decide +kernel
theorem dX10_between_21 : decode cX10_between 21 = .ok (.i2l, 1) := by decide +kernel
theorem dX10_between_22 : decode cX10_between 22 = .ok (.invokestatic 82, 3) := by decide +kernel
theorem dX10_between_25 : decode cX10_between 25 = .ok (.ifCond .eq 21, 3) := by decide +kernel
theorem dX10_between_28 : decode cX10_between 28 = .ok (.aload_n 0, 1) := by decide +kernel
theorem dX10_between_29 : decode cX10_between 29 = .ok (.iload_n 1, 1) := by decide +kernel
theorem dX10_between_30 : decode cX10_between 30 = .ok (.iload_n 3, 1) := by decide +kernel
theorem dX10_between_31 : decode cX10_between 31 = .ok (.iconst 1, 1) := by decide +kernel
theorem dX10_between_32 : decode cX10_between 32 = .ok (.iadd, 1) := by decide +kernel
theorem dX10_between_33 : decode cX10_between 33 = .ok (.invokevirtual 319, 3) := by decide +kernel
theorem dX10_between_36 : decode cX10_between 36 = .ok (.aload_n 0, 1) := by decide +kernel
theorem dX10_between_37 : decode cX10_between 37 = .ok (.iload_n 1, 1) := by decide +kernel
theorem dX10_between_38 : decode cX10_between 38 = .ok (.iload_n 2, 1) := by decide +kernel
theorem dX10_between_39 : decode cX10_between 39 = .ok (.invokevirtual 319, 3) := by decide +kernel
theorem dX10_between_42 : decode cX10_between 42 = .ok (.isub, 1) := by decide +kernel
theorem dX10_between_43 : decode cX10_between 43 = .ok (.goto 5, 3) := by decide +kernel
theorem dX10_between_46 : decode cX10_between 46 = .ok (.bipush (-2), 2) := by decide +kernel
theorem dX10_between_48 : decode cX10_between 48 = .ok (.ireturn, 1) := by decide +kernel
theorem hd_yX10_between : yX10_between.cls = RX10 ∧ yX10_between.cls ≠ "java/lang/invoke/MethodHandle" ∧ yX10_between.cls ≠ "java/lang/invoke/VarHandle" ∧ (parseMethodDescriptor yX10_between.desc).map (fun d => d.parameters.length) = some 3 := by decide +kernel
def uX10_between : List Cond := List.cons (.code yX10_between cX10_between 4 (some .int)) (HAppend.hAppend ([.methodLink RX10 313 yX10_isBoth, .instanceMethod yX10_isBoth, .selects RX10 yX10_isBoth yX10_isBoth, .initialized RX10, .fieldLink RX10 9 "LuckyTicketModel" "world" "[I", .methodLink RX10 82 yX10_in, .static yX10_in, .methodLink RX10 319 yX10_rankOf, .instanceMethod yX10_rankOf, .selects RX10 yX10_rankOf yX10_rankOf] : List Cond) (HAppend.hAppend uX10_isBoth (HAppend.hAppend uX10_in (HAppend.hAppend uX10_rankOf wsX100))))
theorem iX10_between_X10 : ∀ w ∈ wsX100, w ∈ uX10_between := fun _ h => (List.mem_cons_of_mem _ (List.mem_append_right _ (List.mem_append_right _ (List.mem_append_right _ (List.mem_append_right _ h)))))
theorem guX10_between : GU uX10_between := gu_cons (gu_app (by decide +kernel) (gu_ap guX10_isBoth (gu_ap guX10_in (gu_ap guX10_rankOf gws_X10))))
theorem gX10_between__X10_isBoth_V313 : GoodIn uX10_between (wsV RX10 313 RX10 yX10_isBoth uX10_isBoth) := gin_V (List.mem_of_getElem? (i := 1) rfl) (List.mem_of_getElem? (i := 2) rfl) (List.mem_of_getElem? (i := 3) rfl) (List.mem_of_getElem? (i := 4) rfl) (fun _ h => (List.mem_cons_of_mem _ (List.mem_append_right _ (List.mem_append_left _ h)))) guX10_isBoth
theorem gX10_between__X10_in_S82 : GoodIn uX10_between (va_wsS RX10 82 yX10_in uX10_in) := gin_S (List.mem_of_getElem? (i := 6) rfl) (List.mem_of_getElem? (i := 7) rfl) (List.mem_of_getElem? (i := 4) rfl) (fun _ h => (List.mem_cons_of_mem _ (List.mem_append_right _ (List.mem_append_right _ (List.mem_append_left _ h))))) guX10_in
theorem gX10_between__X10_rankOf_V319 : GoodIn uX10_between (wsV RX10 319 RX10 yX10_rankOf uX10_rankOf) := gin_V (List.mem_of_getElem? (i := 8) rfl) (List.mem_of_getElem? (i := 9) rfl) (List.mem_of_getElem? (i := 10) rfl) (List.mem_of_getElem? (i := 4) rfl) (fun _ h => (List.mem_cons_of_mem _ (List.mem_append_right _ (List.mem_append_right _ (List.mem_append_right _ (List.mem_append_left _ h)))))) guX10_rankOf
set_option maxHeartbeats 4000000 in
set_option maxRecDepth 100000 in
theorem kX10_between (l : Launch) (dC : Nat → ClassId) (dI : Nat → Nat → Nat) (o0 : Nat) (x_th : Int32) (mwo : Nat) (mim : Nat) (mhi : Nat) (mlu : Nat) (mtp : Nat) (x_td : Int32) (mfv : Nat) (x_sz : Int32) (x_at : Int32) (x_fr : Int32) (x_to : Int32) (x_va : Int32) (x_fk : Int32) (x_fp : Int32) (mfr : Nat) (mwt : Nat) (x_wt : Int32) (x_op : Int32) (x_jo : Int32) (mfg : Nat) (mpl : Nat) (x_dr : Int64) (mtm : Nat) (mfa : Nat) (mqu : Nat) (mmo : Nat) (mwy : Nat) (mwn : Nat) (mma : Nat) (mwi : Nat) (mnu : Nat) (mmv : Nat) (c_wo : ClassId) (c_lu : ClassId) (w_wo : Nat → Int32) (w_lu : Nat → Int32) (ln : Int32) (bs : Int32) (tk : Int32) (lw : Int32) (li : Int32) (a1 : Int32) (a2 : Int32) (a3 : Int32) (b_ln : (0 : Int) ≤ ln.toInt ∧ ln.toInt ≤ 12) (b_bs : (0 : Int) ≤ bs.toInt ∧ bs.toInt ≤ 16) (b_tk : (0 : Int) ≤ tk.toInt ∧ tk.toInt ≤ 20000) (b_lw : (0 : Int) ≤ lw.toInt ∧ lw.toInt ≤ 9) (hw0 : w_wo 0 = ln) (hw1 : w_wo 1 = bs) (hw2 : w_wo 2 = tk) (hw3 : w_wo 3 = lw) (hw4 : w_wo 4 = li) (hwz : (ln.toInt = 0 ∧ bs.toInt = 0 ∧ tk.toInt = 0 ∧ lw.toInt = 0) ∨ (1 ≤ ln.toInt ∧ 2 ≤ bs.toInt ∧ 1 ≤ tk.toInt)) : Met l yX10_between uX10_between ({ frames := 3, cells := 0, slots := 0, locals := 69 }) (va_Pc [.ref o0, .int a1, .int a2, .int a3] (pw (dC, dI) vwCl [(o0, .inr (8, [.int x_th, .ref mwo, .ref mim, .ref mhi, .ref mlu, .ref mtp, .int x_td, .ref mfv, .int x_sz, .int x_at, .int x_fr, .int x_to, .int x_va, .int x_fk, .int x_fp, .ref mfr, .ref mwt, .int x_wt, .int x_op, .int x_jo, .ref mfg, .ref mpl, .long x_dr, .ref mtm, .ref mfa, .ref mqu, .ref mmo, .ref mwy, .ref mwn, .ref mma, .ref mwi, .ref mnu, .ref mmv])), (mwo, .inl (c_wo, 1875, .inl w_wo)), (mlu, .inl (c_lu, 20000, .inl w_lu))] [(c_wo, .int), (c_lu, .int)])) (vp_Si (fun r => ((-20000 : Int) ≤ r.toInt ∧ r.toInt ≤ 20000))) 0 0 (fun _ => False) := by
  refine Met.ofW (cc := cX10_between) (maxL := 4) (ret := (some .int)) pn_X10 rfl ?_
  intro p e s m args below meth c s₁ B hml hv
  obtain ⟨rfl, hP, hK, hN⟩ := hv
  have hx := B.exec
  have hb := B.bytes
  have hr := B.returns
  have hts := atoms_spec (ws := uX10_between) B.pre
  have hown : s.vm.findClass RX10 = some m.cls := hown_of B.named rfl
  have hlocks := B.notSynchronized
  have hl := lv_entry ([.ref o0, .int a1, .int a2, .int a3]) (n := 4) (Nat.le_of_ble_eq_true rfl)
  rw [lg_entry_eq]
  generalize (lg_sl ([.ref o0, .int a1, .int a2, .int a3]) ++ List.replicate (4 - (lg_sl ([.ref o0, .int a1, .int a2, .int a3])).length) Slot.unset).toArray = ls at hl ⊢
  have hl : lv_has ls 4 [(0, .ref o0), (1, .int a1), (2, .int a2), (3, .int a3)] := hl
  refine lv_aload_n hx hb dX10_between_0 rfl (lv_at hl 0 rfl) ?_
  refine lv_iload_n hx hb dX10_between_1 rfl (lv_at hl 1 rfl) ?_
  refine lv_iload_n hx hb dX10_between_2 rfl (lv_at hl 2 rfl) ?_
  refine vp_callSi (W.runV (As := [.int a1, .int a2]) (rest := []) ⟨hx, hb, hml, hown, hts⟩ (kX10_isBoth l dC dI o0 x_th mwo mim mhi mlu mtp x_td mfv x_sz x_at x_fr x_to x_va x_fk x_fp mfr mwt x_wt x_op x_jo mfg mpl x_dr mtm mfa mqu mmo mwy mwn mma mwi mnu mmv c_wo w_wo ln bs tk lw li a1 a2 b_ln b_bs b_tk b_lw (hw0) (hw1) (hw2) (hw3) (hw4) (hwz)) (cwV 2 hts gX10_between__X10_isBoth_V313 rfl rfl rfl hd_yX10_isBoth ⟨lel 3 3 rfl, lel 69 69 rfl⟩) ⟨pw_fb, rcv_X10 hK hP (q0 := 0) rfl, (pw_use hP hK hN [0, 1] rfl [0] rfl)⟩ rfl rfl hl.1 rfl (lv_room (Nat.le_of_ble_eq_true rfl)) dX10_between_3 ⟨lel 0 0 rfl, lel 0 0 rfl⟩) (fun r_16 h_r_16 => ?_)
  obtain ⟨b_r_16, nz_r_16⟩ := h_r_16
  have b_r_16 : (0 : Int) ≤ r_16.toInt ∧ r_16.toInt ≤ 1 := b_r_16
  refine lv_if_eq (tgt := 46) hx hb dX10_between_6 (by decide) (fun c_17 => ?_) (fun c_17 => ?_)
  ·
    have n_c_17 : (r_16.toInt : Int) = 0 := c_eq rfl (by decide) c_17
    have b_r_16 : (0 : Int) ≤ r_16.toInt ∧ r_16.toInt ≤ 0 := r_eq1 b_r_16 (by decide : (0 : Int) ≤ (0 : Int32).toInt ∧ (0 : Int32).toInt ≤ 0) n_c_17 (by decide)
    refine lv_bipush (v := (-2)) hx hb dX10_between_46 (by decide) ?_
    exact W.iret (v := (-2)) hx hb hr (fun t ht hW => ⟨(-2), rfl, (rg_w (by decide : (-2 : Int) ≤ ((-2) : Int32).toInt ∧ ((-2) : Int32).toInt ≤ -2) (by decide) (by decide)), ht⟩) t_nil dX10_between_48
  ·
    have n_c_17 : (r_16.toInt : Int) ≠ 0 := c_ne rfl (by decide) c_17
    have b_r_16 : (1 : Int) ≤ r_16.toInt ∧ r_16.toInt ≤ 1 := r_ne1 b_r_16 (by decide : (0 : Int) ≤ (0 : Int32).toInt ∧ (0 : Int32).toInt ≤ 0) n_c_17 (by decide)
    obtain ⟨b_a1, b_a2, g_18⟩ := nz_r_16 c_17
    refine lv_iload_n hx hb dX10_between_9 rfl (lv_at hl 3 rfl) ?_
    obtain ⟨z_19, e_z_19⟩ : ∃ y : Int64, y = a3.toInt64 := ⟨_, rfl⟩
    refine lv_i2l (v := z_19) hx hb dX10_between_10 e_z_19.symm ?_
    obtain ⟨q_z_19, b_z_19⟩ := ti_i2l e_z_19 (ti_rng a3)
    refine lv_iload_n hx hb dX10_between_11 rfl (lv_at hl 2 rfl) ?_
    obtain ⟨z_20, e_z_20⟩ : ∃ y : Int64, y = a2.toInt64 := ⟨_, rfl⟩
    refine lv_i2l (v := z_20) hx hb dX10_between_12 e_z_20.symm ?_
    obtain ⟨q_z_20, b_z_20⟩ := ti_i2l e_z_20 b_a2
    refine lv_aload_n hx hb dX10_between_13 rfl (lv_at hl 0 rfl) ?_
    refine va_get (D := (dC, dI)) (ci := 8) (v := .ref mwo) (C := RX10) (T := TX10) (N := 33) hx hb hts iX10_between_X10 hown hK hP 0 rfl rfl 1 (by decide) (hts (.fieldLink RX10 9 "LuckyTicketModel" "world" "[I") (List.mem_of_getElem? (i := 5) rfl)) (fun _ h9 => h9) rfl dX10_between_14 ?_
    refine lv_iconst (v := 2) hx hb dX10_between_17 (by decide) ?_
    refine va_iald hx hb hK hP 1 0 rfl rfl (vp_in_b (by decide : (2 : Int) ≤ (2 : Int32).toInt ∧ (2 : Int32).toInt ≤ 2) (by decide) (by decide)) dX10_between_18 ?_
    refine lv_topi (fun z_21 e_z_21 => ?_)
    obtain rfl : tk = z_21 := (e_z_21.trans hw2).symm
    refine lv_iconst (v := 1) hx hb dX10_between_19 (by decide) ?_
    refine lv_isub hx hb dX10_between_20 ?_
    refine lv_topi (fun z_22 e_z_22 => ?_)
    obtain ⟨q_z_22, b_z_22⟩ := ti_sub (lo := -1) (hi := 19999) e_z_22 rfl (by decide : (1 : Int32).toInt = 1) b_tk (by decide : (1 : Int) ≤ (1 : Int32).toInt ∧ (1 : Int32).toInt ≤ 1) (by decide)
    obtain ⟨z_23, e_z_23⟩ : ∃ y : Int64, y = z_22.toInt64 := ⟨_, rfl⟩
    refine lv_i2l (v := z_23) hx hb dX10_between_21 e_z_23.symm ?_
    obtain ⟨q_z_23, b_z_23⟩ := ti_i2l e_z_23 b_z_22
    refine vp_callSi (W.runS (As := [.long z_19, .long z_20, .long z_23]) (rest := []) ⟨hx, hb, hml, hown, hts⟩ (kX10_in l dC dI z_19 z_20 z_23 ) (va_cwS 3 hts gX10_between__X10_in_S82 rfl rfl rfl hd_yX10_in.2 ⟨lel 1 3 rfl, lel 25 69 rfl⟩) ⟨pn_fb, pn_use⟩ rfl rfl hl.1 rfl (lv_room (Nat.le_of_ble_eq_true rfl)) dX10_between_22 ⟨lel 0 0 rfl, lel 0 0 rfl⟩) (fun r_24 h_r_24 => ?_)
    obtain ⟨b_r_24, nz_r_24⟩ := h_r_24
    have b_r_24 : (0 : Int) ≤ r_24.toInt ∧ r_24.toInt ≤ 1 := b_r_24
    refine lv_if_eq (tgt := 46) hx hb dX10_between_25 (by decide) (fun c_25 => ?_) (fun c_25 => ?_)
    ·
      have n_c_25 : (r_24.toInt : Int) = 0 := c_eq rfl (by decide) c_25
      have b_r_24 : (0 : Int) ≤ r_24.toInt ∧ r_24.toInt ≤ 0 := r_eq1 b_r_24 (by decide : (0 : Int) ≤ (0 : Int32).toInt ∧ (0 : Int32).toInt ≤ 0) n_c_25 (by decide)
      refine lv_bipush (v := (-2)) hx hb dX10_between_46 (by decide) ?_
      exact W.iret (v := (-2)) hx hb hr (fun t ht hW => ⟨(-2), rfl, (rg_w (by decide : (-2 : Int) ≤ ((-2) : Int32).toInt ∧ ((-2) : Int32).toInt ≤ -2) (by decide) (by decide)), ht⟩) t_nil dX10_between_48
    ·
      have n_c_25 : (r_24.toInt : Int) ≠ 0 := c_ne rfl (by decide) c_25
      have b_r_24 : (1 : Int) ≤ r_24.toInt ∧ r_24.toInt ≤ 1 := r_ne1 b_r_24 (by decide : (0 : Int) ≤ (0 : Int32).toInt ∧ (0 : Int32).toInt ≤ 0) n_c_25 (by decide)
      have g_26 := nz_r_24 c_25
      have b_z_19 : (0 : Int) ≤ z_19.toInt ∧ z_19.toInt ≤ 19999 := by
        have q0 := b_z_19
        have q1 := b_z_20
        have q2 := b_z_23
        omega
      have b_a3 : (0 : Int) ≤ a3.toInt ∧ a3.toInt ≤ 19999 := by
        have q0 := b_z_19; have q1 := q_z_19; have q2 := (ti_rng a3); omega
      refine lv_aload_n hx hb dX10_between_28 rfl (lv_at hl 0 rfl) ?_
      refine lv_iload_n hx hb dX10_between_29 rfl (lv_at hl 1 rfl) ?_
      refine lv_iload_n hx hb dX10_between_30 rfl (lv_at hl 3 rfl) ?_
      refine lv_iconst (v := 1) hx hb dX10_between_31 (by decide) ?_
      refine lv_iadd hx hb dX10_between_32 ?_
      refine lv_topi (fun z_27 e_z_27 => ?_)
      obtain ⟨q_z_27, b_z_27⟩ := ti_add (lo := 1) (hi := 20000) e_z_27 rfl (by decide : (1 : Int32).toInt = 1) b_a3 (by decide : (1 : Int) ≤ (1 : Int32).toInt ∧ (1 : Int32).toInt ≤ 1) (by decide)
      refine vp_callSi (W.runV (As := [.int a1, .int z_27]) (rest := []) ⟨hx, hb, hml, hown, hts⟩ (kX10_rankOf l dC dI o0 x_th mwo mim mhi mlu mtp x_td mfv x_sz x_at x_fr x_to x_va x_fk x_fp mfr mwt x_wt x_op x_jo mfg mpl x_dr mtm mfa mqu mmo mwy mwn mma mwi mnu mmv c_wo c_lu w_wo w_lu ln bs tk lw li a1 z_27 b_ln b_bs b_tk b_lw (rg_w b_z_27 (by decide) (by decide)) (hw0) (hw1) (hw2) (hw3) (hw4) (hwz)) (cwV 2 hts gX10_between__X10_rankOf_V319 rfl rfl rfl hd_yX10_rankOf ⟨lel 1 3 rfl, lel 24 69 rfl⟩) ⟨pw_fb, rcv_X10 hK hP (q0 := 0) rfl, (pw_use hP hK hN [0, 1, 2] rfl [0, 1] rfl)⟩ rfl rfl hl.1 rfl (lv_room (Nat.le_of_ble_eq_true rfl)) dX10_between_33 ⟨lel 0 0 rfl, lel 0 0 rfl⟩) (fun r_28 h_r_28 => ?_)
      obtain ⟨b_r_28, pr_r_28⟩ := h_r_28
      have b_r_28 : (0 : Int) ≤ r_28.toInt ∧ r_28.toInt ≤ 20000 := b_r_28
      refine lv_aload_n hx hb dX10_between_36 rfl (lv_at hl 0 rfl) ?_
      refine lv_iload_n hx hb dX10_between_37 rfl (lv_at hl 1 rfl) ?_
      refine lv_iload_n hx hb dX10_between_38 rfl (lv_at hl 2 rfl) ?_
      refine vp_callSi (W.runV (As := [.int a1, .int a2]) (rest := [.int r_28]) ⟨hx, hb, hml, hown, hts⟩ (kX10_rankOf l dC dI o0 x_th mwo mim mhi mlu mtp x_td mfv x_sz x_at x_fr x_to x_va x_fk x_fp mfr mwt x_wt x_op x_jo mfg mpl x_dr mtm mfa mqu mmo mwy mwn mma mwi mnu mmv c_wo c_lu w_wo w_lu ln bs tk lw li a1 a2 b_ln b_bs b_tk b_lw (rg_w b_a2 (by decide) (by decide)) (hw0) (hw1) (hw2) (hw3) (hw4) (hwz)) (cwV 2 hts gX10_between__X10_rankOf_V319 rfl rfl rfl hd_yX10_rankOf ⟨lel 1 3 rfl, lel 24 69 rfl⟩) ⟨pw_fb, rcv_X10 hK hP (q0 := 0) rfl, (pw_use hP hK hN [0, 1, 2] rfl [0, 1] rfl)⟩ rfl rfl hl.1 rfl (lv_room (Nat.le_of_ble_eq_true rfl)) dX10_between_39 ⟨lel 0 0 rfl, lel 0 0 rfl⟩) (fun r_29 h_r_29 => ?_)
      obtain ⟨b_r_29, pr_r_29⟩ := h_r_29
      have b_r_29 : (0 : Int) ≤ r_29.toInt ∧ r_29.toInt ≤ 20000 := b_r_29
      refine lv_isub hx hb dX10_between_42 ?_
      refine lv_topi (fun z_30 e_z_30 => ?_)
      obtain ⟨q_z_30, b_z_30⟩ := ti_sub (lo := -20000) (hi := 20000) e_z_30 rfl rfl b_r_28 b_r_29 (by decide)
      refine lv_goto (tgt := 48) hx hb dX10_between_43 (by decide) ?_
      exact W.iret (v := z_30) hx hb hr (fun t ht hW => ⟨z_30, rfl, b_z_30, ht⟩) t_nil dX10_between_48
theorem dX10_run_0 : decode cX10_run 0 = .ok (.aload_n 0, 1) := by decide +kernel
theorem dX10_run_1 : decode cX10_run 1 = .ok (.iload_n 1, 1) := by decide +kernel
theorem dX10_run_2 : decode cX10_run 2 = .ok (.invokevirtual 89, 3) := by decide +kernel
theorem dX10_run_5 : decode cX10_run 5 = .ok (.ifCond .eq 13, 3) := by decide +kernel
theorem dX10_run_8 : decode cX10_run 8 = .ok (.iload_n 2, 1) := by decide +kernel
theorem dX10_run_9 : decode cX10_run 9 = .ok (.i2l, 1) := by decide +kernel
theorem dX10_run_10 : decode cX10_run 10 = .ok (.lconst 0, 1) := by decide +kernel
theorem dX10_run_11 : decode cX10_run 11 = .ok (.lconst 1, 1) := by decide +kernel
theorem dX10_run_12 : decode cX10_run 12 = .ok (.invokestatic 82, 3) := by decide +kernel
theorem dX10_run_15 : decode cX10_run 15 = .ok (.ifCond .ne 6, 3) := by decide +kernel
theorem dX10_run_18 : decode cX10_run 18 = .ok (.bipush (-2), 2) := by decide +kernel
theorem dX10_run_20 : decode cX10_run 20 = .ok (.ireturn, 1) := by decide +kernel
theorem dX10_run_21 : decode cX10_run 21 = .ok (.iconst 0, 1) := by decide +kernel
theorem dX10_run_22 : decode cX10_run 22 = .ok (.istore_n 3, 1) := by decide +kernel
theorem dX10_run_23 : decode cX10_run 23 = .ok (.iconst (-1), 1) := by decide +kernel
theorem dX10_run_24 : decode cX10_run 24 = .ok (.istore 4, 2) := by decide +kernel
theorem dX10_run_26 : decode cX10_run 26 = .ok (.iconst 0, 1) := by decide +kernel
theorem dX10_run_27 : decode cX10_run 27 = .ok (.istore 5, 2) := by decide +kernel
theorem dX10_run_29 : decode cX10_run 29 = .ok (.iconst 0, 1) := by decide +kernel
theorem dX10_run_30 : decode cX10_run 30 = .ok (.istore 6, 2) := by decide +kernel
theorem dX10_run_32 : decode cX10_run 32 = .ok (.iload 6, 2) := by decide +kernel
theorem dX10_run_34 : decode cX10_run 34 = .ok (.aload_n 0, 1) := by decide +kernel
theorem dX10_run_35 : decode cX10_run 35 = .ok (.getfield 9, 3) := by decide +kernel
theorem dX10_run_38 : decode cX10_run 38 = .ok (.iconst 2, 1) := by decide +kernel
theorem dX10_run_39 : decode cX10_run 39 = .ok (.iaload, 1) := by decide +kernel
theorem dX10_run_40 : decode cX10_run 40 = .ok (.if_icmp .ge 50, 3) := by decide +kernel
theorem dX10_run_43 : decode cX10_run 43 = .ok (.aload_n 0, 1) := by decide +kernel
theorem dX10_run_44 : decode cX10_run 44 = .ok (.iload_n 1, 1) := by decide +kernel
theorem dX10_run_45 : decode cX10_run 45 = .ok (.iload 6, 2) := by decide +kernel
theorem dX10_run_47 : decode cX10_run 47 = .ok (.invokevirtual 316, 3) := by decide +kernel
theorem dX10_run_50 : decode cX10_run 50 = .ok (.ifCond .eq 10, 3) := by decide +kernel
theorem dX10_run_53 : decode cX10_run 53 = .ok (.iload 5, 2) := by decide +kernel
theorem dX10_run_55 : decode cX10_run 55 = .ok (.iconst 1, 1) := by decide +kernel
theorem dX10_run_56 : decode cX10_run 56 = .ok (.iadd, 1) := by decide +kernel
theorem dX10_run_57 : decode cX10_run 57 = .ok (.goto 4, 3) := by decide +kernel
theorem dX10_run_60 : decode cX10_run 60 = .ok (.iconst 0, 1) := by decide +kernel
theorem dX10_run_61 : decode cX10_run 61 = .ok (.istore 5, 2) := by decide +kernel
theorem dX10_run_63 : decode cX10_run 63 = .ok (.iload 5, 2) := by decide +kernel
theorem dX10_run_65 : decode cX10_run 65 = .ok (.iload_n 3, 1) := by decide +kernel
theorem dX10_run_66 : decode cX10_run 66 = .ok (.if_icmp .gt 6, 3) := by decide +kernel
theorem dX10_run_69 : decode cX10_run 69 = .ok (.goto 15, 3) := by decide +kernel
theorem dX10_run_72 : decode cX10_run 72 = .ok (.iload 5, 2) := by decide +kernel
theorem dX10_run_74 : decode cX10_run 74 = .ok (.istore_n 3, 1) := by decide +kernel
theorem dX10_run_75 : decode cX10_run 75 = .ok (.iload 6, 2) := by decide +kernel
theorem dX10_run_77 : decode cX10_run 77 = .ok (.iconst 1, 1) := by decide +kernel
theorem dX10_run_78 : decode cX10_run 78 = .ok (.iadd, 1) := by decide +kernel
theorem dX10_run_79 : decode cX10_run 79 = .ok (.iload 5, 2) := by decide +kernel
theorem dX10_run_81 : decode cX10_run 81 = .ok (.isub, 1) := by decide +kernel
theorem dX10_run_82 : decode cX10_run 82 = .ok (.istore 4, 2) := by decide +kernel
theorem dX10_run_84 : decode cX10_run 84 = .ok (.iinc 6 1, 3) := by decide +kernel
theorem dX10_run_87 : decode cX10_run 87 = .ok (.goto (-55), 3) := by decide +kernel
theorem dX10_run_90 : decode cX10_run 90 = .ok (.iload_n 2, 1) := by decide +kernel
theorem dX10_run_91 : decode cX10_run 91 = .ok (.ifCond .ne 7, 3) := by decide +kernel
theorem dX10_run_94 : decode cX10_run 94 = .ok (.iload_n 3, 1) := by decide +kernel
theorem dX10_run_95 : decode cX10_run 95 = .ok (.goto 5, 3) := by decide +kernel
theorem dX10_run_98 : decode cX10_run 98 = .ok (.iload 4, 2) := by decide +kernel
theorem dX10_run_100 : decode cX10_run 100 = .ok (.ireturn, 1) := by decide +kernel
theorem hd_yX10_run : yX10_run.cls = RX10 ∧ yX10_run.cls ≠ "java/lang/invoke/MethodHandle" ∧ yX10_run.cls ≠ "java/lang/invoke/VarHandle" ∧ (parseMethodDescriptor yX10_run.desc).map (fun d => d.parameters.length) = some 2 := by decide +kernel
def uX10_run : List Cond := List.cons (.code yX10_run cX10_run 7 (some .int)) (HAppend.hAppend ([.methodLink RX10 89 yX10_isLaw, .instanceMethod yX10_isLaw, .selects RX10 yX10_isLaw yX10_isLaw, .initialized RX10, .methodLink RX10 82 yX10_in, .static yX10_in, .fieldLink RX10 9 "LuckyTicketModel" "world" "[I", .methodLink RX10 316 yX10_isLucky, .instanceMethod yX10_isLucky, .selects RX10 yX10_isLucky yX10_isLucky] : List Cond) (HAppend.hAppend uX10_isLaw (HAppend.hAppend uX10_in (HAppend.hAppend uX10_isLucky wsX100))))
theorem iX10_run_X10 : ∀ w ∈ wsX100, w ∈ uX10_run := fun _ h => (List.mem_cons_of_mem _ (List.mem_append_right _ (List.mem_append_right _ (List.mem_append_right _ (List.mem_append_right _ h)))))
theorem guX10_run : GU uX10_run := gu_cons (gu_app (by decide +kernel) (gu_ap guX10_isLaw (gu_ap guX10_in (gu_ap guX10_isLucky gws_X10))))
theorem gX10_run__X10_isLaw_V89 : GoodIn uX10_run (wsV RX10 89 RX10 yX10_isLaw uX10_isLaw) := gin_V (List.mem_of_getElem? (i := 1) rfl) (List.mem_of_getElem? (i := 2) rfl) (List.mem_of_getElem? (i := 3) rfl) (List.mem_of_getElem? (i := 4) rfl) (fun _ h => (List.mem_cons_of_mem _ (List.mem_append_right _ (List.mem_append_left _ h)))) guX10_isLaw
theorem gX10_run__X10_in_S82 : GoodIn uX10_run (va_wsS RX10 82 yX10_in uX10_in) := gin_S (List.mem_of_getElem? (i := 5) rfl) (List.mem_of_getElem? (i := 6) rfl) (List.mem_of_getElem? (i := 4) rfl) (fun _ h => (List.mem_cons_of_mem _ (List.mem_append_right _ (List.mem_append_right _ (List.mem_append_left _ h))))) guX10_in
theorem gX10_run__X10_isLucky_V316 : GoodIn uX10_run (wsV RX10 316 RX10 yX10_isLucky uX10_isLucky) := gin_V (List.mem_of_getElem? (i := 8) rfl) (List.mem_of_getElem? (i := 9) rfl) (List.mem_of_getElem? (i := 10) rfl) (List.mem_of_getElem? (i := 4) rfl) (fun _ h => (List.mem_cons_of_mem _ (List.mem_append_right _ (List.mem_append_right _ (List.mem_append_right _ (List.mem_append_left _ h)))))) guX10_isLucky
set_option maxHeartbeats 4000000 in
set_option maxRecDepth 100000 in
theorem kX10_run (l : Launch) (dC : Nat → ClassId) (dI : Nat → Nat → Nat) (o0 : Nat) (x_th : Int32) (mwo : Nat) (mim : Nat) (mhi : Nat) (mlu : Nat) (mtp : Nat) (x_td : Int32) (mfv : Nat) (x_sz : Int32) (x_at : Int32) (x_fr : Int32) (x_to : Int32) (x_va : Int32) (x_fk : Int32) (x_fp : Int32) (mfr : Nat) (mwt : Nat) (x_wt : Int32) (x_op : Int32) (x_jo : Int32) (mfg : Nat) (mpl : Nat) (x_dr : Int64) (mtm : Nat) (mfa : Nat) (mqu : Nat) (mmo : Nat) (mwy : Nat) (mwn : Nat) (mma : Nat) (mwi : Nat) (mnu : Nat) (mmv : Nat) (c_wo : ClassId) (c_lu : ClassId) (w_wo : Nat → Int32) (w_lu : Nat → Int32) (ln : Int32) (bs : Int32) (tk : Int32) (lw : Int32) (li : Int32) (a1 : Int32) (a2 : Int32) (b_ln : (0 : Int) ≤ ln.toInt ∧ ln.toInt ≤ 12) (b_bs : (0 : Int) ≤ bs.toInt ∧ bs.toInt ≤ 16) (b_tk : (0 : Int) ≤ tk.toInt ∧ tk.toInt ≤ 20000) (b_lw : (0 : Int) ≤ lw.toInt ∧ lw.toInt ≤ 9) (hw0 : w_wo 0 = ln) (hw1 : w_wo 1 = bs) (hw2 : w_wo 2 = tk) (hw3 : w_wo 3 = lw) (hw4 : w_wo 4 = li) (hwz : (ln.toInt = 0 ∧ bs.toInt = 0 ∧ tk.toInt = 0 ∧ lw.toInt = 0) ∨ (1 ≤ ln.toInt ∧ 2 ≤ bs.toInt ∧ 1 ≤ tk.toInt)) : Met l yX10_run uX10_run ({ frames := 2, cells := 0, slots := 0, locals := 46 }) (va_Pc [.ref o0, .int a1, .int a2] (pw (dC, dI) vwCl [(o0, .inr (8, [.int x_th, .ref mwo, .ref mim, .ref mhi, .ref mlu, .ref mtp, .int x_td, .ref mfv, .int x_sz, .int x_at, .int x_fr, .int x_to, .int x_va, .int x_fk, .int x_fp, .ref mfr, .ref mwt, .int x_wt, .int x_op, .int x_jo, .ref mfg, .ref mpl, .long x_dr, .ref mtm, .ref mfa, .ref mqu, .ref mmo, .ref mwy, .ref mwn, .ref mma, .ref mwi, .ref mnu, .ref mmv])), (mwo, .inl (c_wo, 1875, .inl w_wo)), (mlu, .inl (c_lu, 20000, .inl w_lu))] [(c_wo, .int), (c_lu, .int)])) (vp_Si (fun r => True)) 0 0 (fun _ => False) := by
  refine Met.ofW (cc := cX10_run) (maxL := 7) (ret := (some .int)) pn_X10 rfl ?_
  intro p e s m args below meth c s₁ B hml hv
  obtain ⟨rfl, hP, hK, hN⟩ := hv
  have hx := B.exec
  have hb := B.bytes
  have hr := B.returns
  have hts := atoms_spec (ws := uX10_run) B.pre
  have hown : s.vm.findClass RX10 = some m.cls := hown_of B.named rfl
  have hlocks := B.notSynchronized
  have hl := lv_entry ([.ref o0, .int a1, .int a2]) (n := 7) (Nat.le_of_ble_eq_true rfl)
  rw [lg_entry_eq]
  generalize (lg_sl ([.ref o0, .int a1, .int a2]) ++ List.replicate (7 - (lg_sl ([.ref o0, .int a1, .int a2])).length) Slot.unset).toArray = ls at hl ⊢
  have hl : lv_has ls 7 [(0, .ref o0), (1, .int a1), (2, .int a2)] := hl
  refine lv_aload_n hx hb dX10_run_0 rfl (lv_at hl 0 rfl) ?_
  refine lv_iload_n hx hb dX10_run_1 rfl (lv_at hl 1 rfl) ?_
  refine vp_callSi (W.runV (As := [.int a1]) (rest := []) ⟨hx, hb, hml, hown, hts⟩ (kX10_isLaw l dC dI o0 x_th mwo mim mhi mlu mtp x_td mfv x_sz x_at x_fr x_to x_va x_fk x_fp mfr mwt x_wt x_op x_jo mfg mpl x_dr mtm mfa mqu mmo mwy mwn mma mwi mnu mmv c_wo w_wo ln bs tk lw li a1 b_ln b_bs b_tk b_lw (hw0) (hw1) (hw2) (hw3) (hw4) (hwz)) (cwV 1 hts gX10_run__X10_isLaw_V89 rfl rfl rfl hd_yX10_isLaw ⟨lel 2 2 rfl, lel 46 46 rfl⟩) ⟨pw_fb, rcv_X10 hK hP (q0 := 0) rfl, (pw_use hP hK hN [0, 1] rfl [0] rfl)⟩ rfl rfl hl.1 rfl (lv_room (Nat.le_of_ble_eq_true rfl)) dX10_run_2 ⟨lel 0 0 rfl, lel 0 0 rfl⟩) (fun r_505 h_r_505 => ?_)
  obtain ⟨b_r_505, nz_r_505⟩ := h_r_505
  have b_r_505 : (0 : Int) ≤ r_505.toInt ∧ r_505.toInt ≤ 1 := b_r_505
  refine lv_if_eq (tgt := 18) hx hb dX10_run_5 (by decide) (fun c_506 => ?_) (fun c_506 => ?_)
  ·
    have n_c_506 : (r_505.toInt : Int) = 0 := c_eq rfl (by decide) c_506
    have b_r_505 : (0 : Int) ≤ r_505.toInt ∧ r_505.toInt ≤ 0 := r_eq1 b_r_505 (by decide : (0 : Int) ≤ (0 : Int32).toInt ∧ (0 : Int32).toInt ≤ 0) n_c_506 (by decide)
    refine lv_bipush (v := (-2)) hx hb dX10_run_18 (by decide) ?_
    exact W.iret (v := (-2)) hx hb hr (fun t ht hW => ⟨(-2), rfl, trivial, ht⟩) t_nil dX10_run_20
  ·
    have n_c_506 : (r_505.toInt : Int) ≠ 0 := c_ne rfl (by decide) c_506
    have b_r_505 : (1 : Int) ≤ r_505.toInt ∧ r_505.toInt ≤ 1 := r_ne1 b_r_505 (by decide : (0 : Int) ≤ (0 : Int32).toInt ∧ (0 : Int32).toInt ≤ 0) n_c_506 (by decide)
    obtain ⟨b_a1, g_507⟩ := nz_r_505 c_506
    refine lv_iload_n hx hb dX10_run_8 rfl (lv_at hl 2 rfl) ?_
    obtain ⟨z_508, e_z_508⟩ : ∃ y : Int64, y = a2.toInt64 := ⟨_, rfl⟩
    refine lv_i2l (v := z_508) hx hb dX10_run_9 e_z_508.symm ?_
    obtain ⟨q_z_508, b_z_508⟩ := ti_i2l e_z_508 (ti_rng a2)
    refine lv_lconst (v := 0) hx hb dX10_run_10 (by decide) ?_
    refine lv_lconst (v := 1) hx hb dX10_run_11 (by decide) ?_
    refine vp_callSi (W.runS (As := [.long z_508, .long 0, .long 1]) (rest := []) ⟨hx, hb, hml, hown, hts⟩ (kX10_in l dC dI z_508 0 1 ) (va_cwS 3 hts gX10_run__X10_in_S82 rfl rfl rfl hd_yX10_in.2 ⟨lel 1 2 rfl, lel 25 46 rfl⟩) ⟨pn_fb, pn_use⟩ rfl rfl hl.1 rfl (lv_room (Nat.le_of_ble_eq_true rfl)) dX10_run_12 ⟨lel 0 0 rfl, lel 0 0 rfl⟩) (fun r_509 h_r_509 => ?_)
    obtain ⟨b_r_509, nz_r_509⟩ := h_r_509
    have b_r_509 : (0 : Int) ≤ r_509.toInt ∧ r_509.toInt ≤ 1 := b_r_509
    refine lv_if_ne (tgt := 21) hx hb dX10_run_15 (by decide) (fun c_510 => ?_) (fun c_510 => ?_)
    ·
      have n_c_510 : (r_509.toInt : Int) ≠ 0 := c_ne rfl (by decide) c_510
      have b_r_509 : (1 : Int) ≤ r_509.toInt ∧ r_509.toInt ≤ 1 := r_ne1 b_r_509 (by decide : (0 : Int) ≤ (0 : Int32).toInt ∧ (0 : Int32).toInt ≤ 0) n_c_510 (by decide)
      have g_511 := nz_r_509 c_510
      have lt0_g_511 := (by decide : (0 : Int64).toInt = 0)
      have lt1_g_511 := (by decide : (1 : Int64).toInt = 1)
      have b_z_508 : (0 : Int) ≤ z_508.toInt ∧ z_508.toInt ≤ 1 := by
        have q0 := b_z_508
        have q1 := (by decide : (0 : Int) ≤ (0 : Int64).toInt ∧ (0 : Int64).toInt ≤ 0)
        have q2 := (by decide : (1 : Int) ≤ (1 : Int64).toInt ∧ (1 : Int64).toInt ≤ 1)
        omega
      have b_a2 : (0 : Int) ≤ a2.toInt ∧ a2.toInt ≤ 1 := by
        have q0 := b_z_508; have q1 := q_z_508; have q2 := (ti_rng a2); omega
      refine lv_iconst (v := 0) hx hb dX10_run_21 (by decide) ?_
      refine lv_istore_n (lv' := [(3, .int 0), (0, .ref o0), (1, .int a1), (2, .int a2)]) hx hb dX10_run_22 rfl hl (by decide) rfl (fun ls hl => ?_)
      refine lv_iconst (v := (-1)) hx hb dX10_run_23 (by decide) ?_
      refine lv_istore (lv' := [(4, .int (-1)), (3, .int 0), (0, .ref o0), (1, .int a1), (2, .int a2)]) hx hb dX10_run_24 hl (by decide) rfl (fun ls hl => ?_)
      refine lv_iconst (v := 0) hx hb dX10_run_26 (by decide) ?_
      refine lv_istore (lv' := [(5, .int 0), (4, .int (-1)), (3, .int 0), (0, .ref o0), (1, .int a1), (2, .int a2)]) hx hb dX10_run_27 hl (by decide) rfl (fun ls hl => ?_)
      refine lv_iconst (v := 0) hx hb dX10_run_29 (by decide) ?_
      refine lv_istore (lv' := [(6, .int 0), (5, .int 0), (4, .int (-1)), (3, .int 0), (0, .ref o0), (1, .int a1), (2, .int a2)]) hx hb dX10_run_30 hl (by decide) rfl (fun ls hl => ?_)
      refine loopP (σ := Int32 × Int32 × Int32 × Int32) (fun v => (20000 - v.1.toInt).toNat) (fun v ls => ((0 : Int) ≤ v.1.toInt ∧ v.1.toInt ≤ 20000) ∧ ((-2147483648 : Int) ≤ v.2.2.1.toInt ∧ v.2.2.1.toInt ≤ 19999) ∧ ((0 : Int) ≤ v.2.2.2.toInt ∧ v.2.2.2.toInt ≤ 2147483647) ∧ lv_has ls 7 [(6, .int v.1), (5, .int v.2.1), (4, .int v.2.2.1), (3, .int v.2.2.2), (0, .ref o0), (1, .int a1), (2, .int a2)]) (fun v ls hI ih_32_979 => ?_) ((0 : Int32), (0 : Int32), (-1 : Int32), (0 : Int32)) ⟨(show (0 : Int) ≤ (0 : Int32).toInt ∧ (0 : Int32).toInt ≤ 20000 from (rg_w (by decide : (0 : Int) ≤ (0 : Int32).toInt ∧ (0 : Int32).toInt ≤ 0) (by decide) (by decide))), (show (-2147483648 : Int) ≤ (-1 : Int32).toInt ∧ (-1 : Int32).toInt ≤ 19999 from (rg_w (by decide : (-1 : Int) ≤ ((-1) : Int32).toInt ∧ ((-1) : Int32).toInt ≤ -1) (by decide) (by decide))), (show (0 : Int) ≤ (0 : Int32).toInt ∧ (0 : Int32).toInt ≤ 2147483647 from (rg_w (by decide : (0 : Int) ≤ (0 : Int32).toInt ∧ (0 : Int32).toInt ≤ 0) (by decide) (by decide))), lv_sub hl [0, 1, 2, 3, 4, 5, 6] rfl⟩
      obtain ⟨y_541, y_542, y_543, y_544⟩ := v
      obtain ⟨b_y_541, b_y_543, b_y_544, hl⟩ := hI
      have b_y_541 : (0 : Int) ≤ y_541.toInt ∧ y_541.toInt ≤ 20000 := b_y_541
      have b_y_543 : (-2147483648 : Int) ≤ y_543.toInt ∧ y_543.toInt ≤ 19999 := b_y_543
      have b_y_544 : (0 : Int) ≤ y_544.toInt ∧ y_544.toInt ≤ 2147483647 := b_y_544
      have hl : lv_has ls 7 [(6, .int y_541), (5, .int y_542), (4, .int y_543), (3, .int y_544), (0, .ref o0), (1, .int a1), (2, .int a2)] := hl
      refine lv_iload hx hb dX10_run_32 (lv_at hl 0 rfl) ?_
      refine lv_aload_n hx hb dX10_run_34 rfl (lv_at hl 4 rfl) ?_
      refine va_get (D := (dC, dI)) (ci := 8) (v := .ref mwo) (C := RX10) (T := TX10) (N := 33) hx hb hts iX10_run_X10 hown hK hP 0 rfl rfl 1 (by decide) (hts (.fieldLink RX10 9 "LuckyTicketModel" "world" "[I") (List.mem_of_getElem? (i := 7) rfl)) (fun _ h9 => h9) rfl dX10_run_35 ?_
      refine lv_iconst (v := 2) hx hb dX10_run_38 (by decide) ?_
      refine va_iald hx hb hK hP 1 0 rfl rfl (vp_in_b (by decide : (2 : Int) ≤ (2 : Int32).toInt ∧ (2 : Int32).toInt ≤ 2) (by decide) (by decide)) dX10_run_39 ?_
      refine lv_topi (fun z_980 e_z_980 => ?_)
      obtain rfl : tk = z_980 := (e_z_980.trans hw2).symm
      refine lv_icmp_ge (tgt := 90) hx hb dX10_run_40 (by decide) (fun c_981 => ?_) (fun c_981 => ?_)
      ·
        have n_c_981 : (tk.toInt : Int) ≤ y_541.toInt := c_ge rfl rfl c_981
        refine lv_iload_n hx hb dX10_run_90 rfl (lv_at hl 6 rfl) ?_
        refine lv_if_ne (tgt := 98) hx hb dX10_run_91 (by decide) (fun c_995 => ?_) (fun c_995 => ?_)
        ·
          have n_c_995 : (a2.toInt : Int) ≠ 0 := c_ne rfl (by decide) c_995
          have b_a2 : (1 : Int) ≤ a2.toInt ∧ a2.toInt ≤ 1 := r_ne1 b_a2 (by decide : (0 : Int) ≤ (0 : Int32).toInt ∧ (0 : Int32).toInt ≤ 0) n_c_995 (by decide)
          refine lv_iload hx hb dX10_run_98 (lv_at hl 2 rfl) ?_
          exact W.iret (v := y_543) hx hb hr (fun t ht hW => ⟨y_543, rfl, trivial, ht⟩) t_nil dX10_run_100
        ·
          have n_c_995 : (a2.toInt : Int) = 0 := c_eq rfl (by decide) c_995
          have b_a2 : (0 : Int) ≤ a2.toInt ∧ a2.toInt ≤ 0 := r_eq1 b_a2 (by decide : (0 : Int) ≤ (0 : Int32).toInt ∧ (0 : Int32).toInt ≤ 0) n_c_995 (by decide)
          refine lv_iload_n hx hb dX10_run_94 rfl (lv_at hl 3 rfl) ?_
          refine lv_goto (tgt := 100) hx hb dX10_run_95 (by decide) ?_
          exact W.iret (v := y_544) hx hb hr (fun t ht hW => ⟨y_544, rfl, trivial, ht⟩) t_nil dX10_run_100
      ·
        have n_c_981 : (y_541.toInt : Int) < tk.toInt := c_nge rfl rfl c_981
        have b_y_541 : (0 : Int) ≤ y_541.toInt ∧ y_541.toInt ≤ 19999 := r_lt1 b_y_541 b_tk n_c_981 (by decide)
        have b_tk : (1 : Int) ≤ tk.toInt ∧ tk.toInt ≤ 20000 := r_lt2 b_y_541 b_tk n_c_981 (by decide)
        refine lv_aload_n hx hb dX10_run_43 rfl (lv_at hl 4 rfl) ?_
        refine lv_iload_n hx hb dX10_run_44 rfl (lv_at hl 5 rfl) ?_
        refine lv_iload hx hb dX10_run_45 (lv_at hl 0 rfl) ?_
        refine vp_callSi (W.runV (As := [.int a1, .int y_541]) (rest := []) ⟨hx, hb, hml, hown, hts⟩ (kX10_isLucky l dC dI o0 x_th mwo mim mhi mlu mtp x_td mfv x_sz x_at x_fr x_to x_va x_fk x_fp mfr mwt x_wt x_op x_jo mfg mpl x_dr mtm mfa mqu mmo mwy mwn mma mwi mnu mmv c_wo c_lu w_wo w_lu ln bs tk lw li a1 y_541 b_ln b_bs (rg_w b_tk (by decide) (by decide)) b_lw b_y_541 (hw0) (hw1) (hw2) (hw3) (hw4) (hwz)) (cwV 2 hts gX10_run__X10_isLucky_V316 rfl rfl rfl hd_yX10_isLucky ⟨lel 1 2 rfl, lel 22 46 rfl⟩) ⟨pw_fb, rcv_X10 hK hP (q0 := 0) rfl, (pw_use hP hK hN [0, 1, 2] rfl [0, 1] rfl)⟩ rfl rfl hl.1 rfl (lv_room (Nat.le_of_ble_eq_true rfl)) dX10_run_47 ⟨lel 0 0 rfl, lel 0 0 rfl⟩) (fun r_996 h_r_996 => ?_)
        have b_r_996 := h_r_996
        have b_r_996 : (0 : Int) ≤ r_996.toInt ∧ r_996.toInt ≤ 1 := b_r_996
        refine cutP (σ := Int32) (pc2 := 61) (st2 := fun v => [.int v]) (cells2 := 0) (slots2 := 0) (fun v ls => lv_has ls 7 [(6, .int y_541), (5, .int y_542), (4, .int y_543), (3, .int y_544), (0, .ref o0), (1, .int a1), (2, .int a2)]) (fun v ls hI => ?_) (fun hj_61_999 => ?_)
        ·
          obtain ⟨y_999, rfl⟩ : ∃ z, z = v := ⟨_, rfl⟩
          have hl := hI
          have hl : lv_has ls 7 [(6, .int y_541), (5, .int y_542), (4, .int y_543), (3, .int y_544), (0, .ref o0), (1, .int a1), (2, .int a2)] := hl
          refine lv_istore (lv' := [(5, .int y_999), (6, .int y_541), (4, .int y_543), (3, .int y_544), (0, .ref o0), (1, .int a1), (2, .int a2)]) hx hb dX10_run_61 hl (by decide) rfl (fun ls hl => ?_)
          refine lv_iload hx hb dX10_run_63 (lv_at hl 0 rfl) ?_
          refine lv_iload_n hx hb dX10_run_65 rfl (lv_at hl 3 rfl) ?_
          refine cutP (σ := Int32 × Int32) (pc2 := 84) (st2 := fun v => []) (cells2 := 0) (slots2 := 0) (fun v ls => ((-2147483648 : Int) ≤ v.1.toInt ∧ v.1.toInt ≤ 19999) ∧ ((0 : Int) ≤ v.2.toInt ∧ v.2.toInt ≤ 2147483647) ∧ lv_has ls 7 [(4, .int v.1), (3, .int v.2), (5, .int y_999), (6, .int y_541), (0, .ref o0), (1, .int a1), (2, .int a2)]) (fun v ls hI => ?_) (fun hj_84_1004 => ?_)
          ·
            obtain ⟨y_1003, y_1004⟩ := v
            obtain ⟨b_y_1003, b_y_1004, hl⟩ := hI
            have b_y_1003 : (-2147483648 : Int) ≤ y_1003.toInt ∧ y_1003.toInt ≤ 19999 := b_y_1003
            have b_y_1004 : (0 : Int) ≤ y_1004.toInt ∧ y_1004.toInt ≤ 2147483647 := b_y_1004
            have hl : lv_has ls 7 [(4, .int y_1003), (3, .int y_1004), (5, .int y_999), (6, .int y_541), (0, .ref o0), (1, .int a1), (2, .int a2)] := hl
            obtain ⟨z_1005, e_z_1005⟩ : ∃ y : Int32, y = y_541 + 1 := ⟨_, rfl⟩
            refine lv_iinc (v := z_1005) (lv' := [(6, .int z_1005), (4, .int y_1003), (3, .int y_1004), (5, .int y_999), (0, .ref o0), (1, .int a1), (2, .int a2)]) hx hb dX10_run_84 hl (k := 3) rfl (by rw [e_z_1005]; rfl) (by decide) rfl (fun ls hl => ?_)
            obtain ⟨q_z_1005, b_z_1005⟩ := ti_add (lo := 1) (hi := 20000) e_z_1005 rfl (by decide : (1 : Int32).toInt = 1) b_y_541 (by decide : (1 : Int) ≤ (1 : Int32).toInt ∧ (1 : Int32).toInt ≤ 1) (by decide)
            refine lv_goto (tgt := 32) hx hb dX10_run_87 (by decide) ?_
            exact ih_32_979 (z_1005, y_999, y_1003, y_1004) _ ⟨(show (0 : Int) ≤ z_1005.toInt ∧ z_1005.toInt ≤ 20000 from (rg_w b_z_1005 (by decide) (by decide))), (show (-2147483648 : Int) ≤ y_1003.toInt ∧ y_1003.toInt ≤ 19999 from b_y_1003), (show (0 : Int) ≤ y_1004.toInt ∧ y_1004.toInt ≤ 2147483647 from b_y_1004), lv_sub hl [0, 3, 1, 2, 4, 5, 6] rfl⟩ (show (20000 - z_1005.toInt).toNat < (20000 - y_541.toInt).toNat by omega)
          ·
            refine lv_icmp_gt (tgt := 72) hx hb dX10_run_66 (by decide) (fun c_1000 => ?_) (fun c_1000 => ?_)
            ·
              have n_c_1000 : (y_544.toInt : Int) < y_999.toInt := c_gt rfl rfl c_1000
              have b_y_544 : (0 : Int) ≤ y_544.toInt ∧ y_544.toInt ≤ 2147483646 := r_lt1 b_y_544 (ti_rng y_999) n_c_1000 (by decide)
              have b_y_999 : (1 : Int) ≤ y_999.toInt ∧ y_999.toInt ≤ 2147483647 := r_lt2 b_y_544 (ti_rng y_999) n_c_1000 (by decide)
              refine lv_iload hx hb dX10_run_72 (lv_at hl 0 rfl) ?_
              refine lv_istore_n (lv' := [(3, .int y_999), (5, .int y_999), (6, .int y_541), (4, .int y_543), (0, .ref o0), (1, .int a1), (2, .int a2)]) hx hb dX10_run_74 rfl hl (by decide) rfl (fun ls hl => ?_)
              refine lv_iload hx hb dX10_run_75 (lv_at hl 2 rfl) ?_
              refine lv_iconst (v := 1) hx hb dX10_run_77 (by decide) ?_
              refine lv_iadd hx hb dX10_run_78 ?_
              refine lv_topi (fun z_1006 e_z_1006 => ?_)
              obtain ⟨q_z_1006, b_z_1006⟩ := ti_add (lo := 1) (hi := 20000) e_z_1006 rfl (by decide : (1 : Int32).toInt = 1) b_y_541 (by decide : (1 : Int) ≤ (1 : Int32).toInt ∧ (1 : Int32).toInt ≤ 1) (by decide)
              refine lv_iload hx hb dX10_run_79 (lv_at hl 1 rfl) ?_
              refine lv_isub hx hb dX10_run_81 ?_
              refine lv_topi (fun z_1007 e_z_1007 => ?_)
              obtain ⟨q_z_1007, b_z_1007⟩ := ti_sub (lo := -2147483646) (hi := 19999) e_z_1007 rfl rfl b_z_1006 b_y_999 (by decide)
              refine lv_istore (lv' := [(4, .int z_1007), (3, .int y_999), (5, .int y_999), (6, .int y_541), (0, .ref o0), (1, .int a1), (2, .int a2)]) hx hb dX10_run_82 hl (by decide) rfl (fun ls hl => ?_)
              exact hj_84_1004 (z_1007, y_999) _ ⟨(show (-2147483648 : Int) ≤ z_1007.toInt ∧ z_1007.toInt ≤ 19999 from (rg_w b_z_1007 (by decide) (by decide))), (show (0 : Int) ≤ y_999.toInt ∧ y_999.toInt ≤ 2147483647 from (rg_w b_y_999 (by decide) (by decide))), lv_sub hl [0, 1, 2, 3, 4, 5, 6] rfl⟩
            ·
              have n_c_1000 : (y_999.toInt : Int) ≤ y_544.toInt := c_ngt rfl rfl c_1000
              refine lv_goto (tgt := 84) hx hb dX10_run_69 (by decide) ?_
              exact hj_84_1004 (y_543, y_544) _ ⟨(show (-2147483648 : Int) ≤ y_543.toInt ∧ y_543.toInt ≤ 19999 from b_y_543), (show (0 : Int) ≤ y_544.toInt ∧ y_544.toInt ≤ 2147483647 from b_y_544), lv_sub hl [2, 3, 0, 1, 4, 5, 6] rfl⟩
        ·
          refine lv_if_eq (tgt := 60) hx hb dX10_run_50 (by decide) (fun c_997 => ?_) (fun c_997 => ?_)
          ·
            have n_c_997 : (r_996.toInt : Int) = 0 := c_eq rfl (by decide) c_997
            have b_r_996 : (0 : Int) ≤ r_996.toInt ∧ r_996.toInt ≤ 0 := r_eq1 b_r_996 (by decide : (0 : Int) ≤ (0 : Int32).toInt ∧ (0 : Int32).toInt ≤ 0) n_c_997 (by decide)
            refine lv_iconst (v := 0) hx hb dX10_run_60 (by decide) ?_
            exact hj_61_999 (0 : Int32) _ (lv_sub hl [0, 1, 2, 3, 4, 5, 6] rfl)
          ·
            have n_c_997 : (r_996.toInt : Int) ≠ 0 := c_ne rfl (by decide) c_997
            have b_r_996 : (1 : Int) ≤ r_996.toInt ∧ r_996.toInt ≤ 1 := r_ne1 b_r_996 (by decide : (0 : Int) ≤ (0 : Int32).toInt ∧ (0 : Int32).toInt ≤ 0) n_c_997 (by decide)
            refine lv_iload hx hb dX10_run_53 (lv_at hl 1 rfl) ?_
            refine lv_iconst (v := 1) hx hb dX10_run_55 (by decide) ?_
            refine lv_iadd hx hb dX10_run_56 ?_
            refine lv_topi (fun z_1008 e_z_1008 => ?_)
            refine lv_goto (tgt := 61) hx hb dX10_run_57 (by decide) ?_
            exact hj_61_999 z_1008 _ (lv_sub hl [0, 1, 2, 3, 4, 5, 6] rfl)
    ·
      have n_c_510 : (r_509.toInt : Int) = 0 := c_eq rfl (by decide) c_510
      have b_r_509 : (0 : Int) ≤ r_509.toInt ∧ r_509.toInt ≤ 0 := r_eq1 b_r_509 (by decide : (0 : Int) ≤ (0 : Int32).toInt ∧ (0 : Int32).toInt ≤ 0) n_c_510 (by decide)
      refine lv_bipush (v := (-2)) hx hb dX10_run_18 (by decide) ?_
      exact W.iret (v := (-2)) hx hb hr (fun t ht hW => ⟨(-2), rfl, trivial, ht⟩) t_nil dX10_run_20
theorem dX10_window_0 : decode cX10_window 0 = .ok (.aload_n 0, 1) := by decide +kernel
theorem dX10_window_1 : decode cX10_window 1 = .ok (.iload_n 1, 1) := by decide +kernel
theorem dX10_window_2 : decode cX10_window 2 = .ok (.invokevirtual 89, 3) := by decide +kernel
theorem dX10_window_5 : decode cX10_window 5 = .ok (.ifCond .eq 31, 3) := by decide +kernel
theorem dX10_window_8 : decode cX10_window 8 = .ok (.iload_n 2, 1) := by decide +kernel
theorem dX10_window_9 : decode cX10_window 9 = .ok (.i2l, 1) := by decide +kernel
theorem dX10_window_10 : decode cX10_window 10 = .ok (.lconst 1, 1) := by decide +kernel
theorem dX10_window_11 : decode cX10_window 11 = .ok (.aload_n 0, 1) := by decide +kernel
theorem dX10_window_12 : decode cX10_window 12 = .ok (.getfield 9, 3) := by decide +kernel
theorem dX10_window_15 : decode cX10_window 15 = .ok (.iconst 2, 1) := by decide +kernel
theorem dX10_window_16 : decode cX10_window 16 = .ok (.iaload, 1) := by decide +kernel
theorem dX10_window_17 : decode cX10_window 17 = .ok (.i2l, 1) := by decide +kernel
theorem dX10_window_18 : decode cX10_window 18 = .ok (.invokestatic 82, 3) := by decide +kernel
theorem dX10_window_21 : decode cX10_window 21 = .ok (.ifCond .eq 15, 3) := by decide +kernel
theorem dX10_window_24 : decode cX10_window 24 = .ok (.iload_n 3, 1) := by decide +kernel
theorem dX10_window_25 : decode cX10_window 25 = .ok (.i2l, 1) := by decide +kernel
theorem dX10_window_26 : decode cX10_window 26 = .ok (.lconst 0, 1) := by decide +kernel
theorem dX10_window_27 : decode cX10_window 27 = .ok (.ldc2_w 375, 3) := by decide +kernel
theorem dX10_window_30 : decode cX10_window 30 = .ok (.invokestatic 82, 3) := by decide +kernel
theorem dX10_window_33 : decode cX10_window 33 = .ok (.ifCond .ne 6, 3) := by decide +kernel
theorem dX10_window_36 : decode cX10_window 36 = .ok (.bipush (-2), 2) := by decide +kernel
theorem dX10_window_38 : decode cX10_window 38 = .ok (.ireturn, 1) := by decide +kernel
theorem dX10_window_39 : decode cX10_window 39 = .ok (.aload_n 0, 1) := by decide +kernel
theorem dX10_window_40 : decode cX10_window 40 = .ok (.iload_n 1, 1) := by decide +kernel
theorem dX10_window_41 : decode cX10_window 41 = .ok (.iload_n 2, 1) := by decide +kernel
theorem dX10_window_42 : decode cX10_window 42 = .ok (.invokevirtual 319, 3) := by decide +kernel
theorem dX10_window_45 : decode cX10_window 45 = .ok (.istore 4, 2) := by decide +kernel
theorem dX10_window_47 : decode cX10_window 47 = .ok (.iload 4, 2) := by decide +kernel
theorem dX10_window_49 : decode cX10_window 49 = .ok (.istore 5, 2) := by decide +kernel
theorem dX10_window_51 : decode cX10_window 51 = .ok (.iconst 0, 1) := by decide +kernel
theorem dX10_window_52 : decode cX10_window 52 = .ok (.istore 6, 2) := by decide +kernel
theorem dX10_window_54 : decode cX10_window 54 = .ok (.iload 4, 2) := by decide +kernel
theorem dX10_window_56 : decode cX10_window 56 = .ok (.istore 7, 2) := by decide +kernel
theorem dX10_window_58 : decode cX10_window 58 = .ok (.iconst 0, 1) := by decide +kernel
theorem dX10_window_59 : decode cX10_window 59 = .ok (.istore 8, 2) := by decide +kernel
theorem dX10_window_61 : decode cX10_window 61 = .ok (.iconst 1, 1) := by decide +kernel
theorem dX10_window_62 : decode cX10_window 62 = .ok (.istore 9, 2) := by decide +kernel
theorem dX10_window_64 : decode cX10_window 64 = .ok (.iload 9, 2) := by decide +kernel
theorem dX10_window_66 : decode cX10_window 66 = .ok (.iload_n 2, 1) := by decide +kernel
theorem dX10_window_67 : decode cX10_window 67 = .ok (.iadd, 1) := by decide +kernel
theorem dX10_window_68 : decode cX10_window 68 = .ok (.aload_n 0, 1) := by decide +kernel
theorem dX10_window_69 : decode cX10_window 69 = .ok (.getfield 9, 3) := by decide +kernel
theorem dX10_window_72 : decode cX10_window 72 = .ok (.iconst 2, 1) := by decide +kernel
theorem dX10_window_73 : decode cX10_window 73 = .ok (.iaload, 1) := by decide +kernel
theorem dX10_window_74 : decode cX10_window 74 = .ok (.if_icmp .gt 93, 3) := by decide +kernel
theorem dX10_window_77 : decode cX10_window 77 = .ok (.iload 4, 2) := by decide +kernel
theorem dX10_window_79 : decode cX10_window 79 = .ok (.aload_n 0, 1) := by decide +kernel
theorem dX10_window_80 : decode cX10_window 80 = .ok (.getfield 20, 3) := by decide +kernel
theorem dX10_window_83 : decode cX10_window 83 = .ok (.iload 9, 2) := by decide +kernel
theorem dX10_window_85 : decode cX10_window 85 = .ok (.iload_n 2, 1) := by decide +kernel
theorem dX10_window_86 : decode cX10_window 86 = .ok (.iadd, 1) := by decide +kernel
theorem dX10_window_87 : decode cX10_window 87 = .ok (.iconst 1, 1) := by decide +kernel
theorem dX10_window_88 : decode cX10_window 88 = .ok (.isub, 1) := by decide +kernel
theorem dX10_window_89 : decode cX10_window 89 = .ok (.iaload, 1) := by decide +kernel
theorem dX10_window_90 : decode cX10_window 90 = .ok (.iload_n 1, 1) := by decide +kernel
theorem dX10_window_91 : decode cX10_window 91 = .ok (.ishr, 1) := by decide +kernel
theorem dX10_window_92 : decode cX10_window 92 = .ok (.iconst 1, 1) := by decide +kernel
theorem dX10_window_93 : decode cX10_window 93 = .ok (.iand, 1) := by decide +kernel
theorem dX10_window_94 : decode cX10_window 94 = .ok (.aload_n 0, 1) := by decide +kernel
theorem dX10_window_95 : decode cX10_window 95 = .ok (.getfield 20, 3) := by decide +kernel
theorem dX10_window_98 : decode cX10_window 98 = .ok (.iload 9, 2) := by decide +kernel
theorem dX10_window_100 : decode cX10_window 100 = .ok (.iconst 1, 1) := by decide +kernel
theorem dX10_window_101 : decode cX10_window 101 = .ok (.isub, 1) := by decide +kernel
theorem dX10_window_102 : decode cX10_window 102 = .ok (.iaload, 1) := by decide +kernel
theorem dX10_window_103 : decode cX10_window 103 = .ok (.iload_n 1, 1) := by decide +kernel
theorem dX10_window_104 : decode cX10_window 104 = .ok (.ishr, 1) := by decide +kernel
theorem dX10_window_105 : decode cX10_window 105 = .ok (.iconst 1, 1) := by decide +kernel
theorem dX10_window_106 : decode cX10_window 106 = .ok (.iand, 1) := by decide +kernel
theorem dX10_window_107 : decode cX10_window 107 = .ok (.isub, 1) := by decide +kernel
theorem dX10_window_108 : decode cX10_window 108 = .ok (.iadd, 1) := by decide +kernel
theorem dX10_window_109 : decode cX10_window 109 = .ok (.istore 4, 2) := by decide +kernel
theorem dX10_window_111 : decode cX10_window 111 = .ok (.iload 4, 2) := by decide +kernel
theorem dX10_window_113 : decode cX10_window 113 = .ok (.iload 5, 2) := by decide +kernel
theorem dX10_window_115 : decode cX10_window 115 = .ok (.if_icmp .le 8, 3) := by decide +kernel
theorem dX10_window_118 : decode cX10_window 118 = .ok (.iload 9, 2) := by decide +kernel
theorem dX10_window_120 : decode cX10_window 120 = .ok (.goto 5, 3) := by decide +kernel
theorem dX10_window_123 : decode cX10_window 123 = .ok (.iload 6, 2) := by decide +kernel
theorem dX10_window_125 : decode cX10_window 125 = .ok (.istore 6, 2) := by decide +kernel
theorem dX10_window_127 : decode cX10_window 127 = .ok (.iload 5, 2) := by decide +kernel
theorem dX10_window_129 : decode cX10_window 129 = .ok (.iload 4, 2) := by decide +kernel
theorem dX10_window_131 : decode cX10_window 131 = .ok (.invokestatic 427, 3) := by decide +kernel
theorem dX10_window_134 : decode cX10_window 134 = .ok (.istore 5, 2) := by decide +kernel
theorem dX10_window_136 : decode cX10_window 136 = .ok (.iload 4, 2) := by decide +kernel
theorem dX10_window_138 : decode cX10_window 138 = .ok (.iload 7, 2) := by decide +kernel
theorem dX10_window_140 : decode cX10_window 140 = .ok (.if_icmp .ge 8, 3) := by decide +kernel
theorem dX10_window_143 : decode cX10_window 143 = .ok (.iload 9, 2) := by decide +kernel
theorem dX10_window_145 : decode cX10_window 145 = .ok (.goto 5, 3) := by decide +kernel
theorem dX10_window_148 : decode cX10_window 148 = .ok (.iload 8, 2) := by decide +kernel
theorem dX10_window_150 : decode cX10_window 150 = .ok (.istore 8, 2) := by decide +kernel
theorem dX10_window_152 : decode cX10_window 152 = .ok (.iload 7, 2) := by decide +kernel
theorem dX10_window_154 : decode cX10_window 154 = .ok (.iload 4, 2) := by decide +kernel
theorem dX10_window_156 : decode cX10_window 156 = .ok (.invokestatic 128, 3) := by decide +kernel
theorem dX10_window_159 : decode cX10_window 159 = .ok (.istore 7, 2) := by decide +kernel
theorem dX10_window_161 : decode cX10_window 161 = .ok (.iinc 9 1, 3) := by decide +kernel
theorem dX10_window_164 : decode cX10_window 164 = .ok (.goto (-100), 3) := by decide +kernel
theorem dX10_window_167 : decode cX10_window 167 = .ok (.iload_n 3, 1) := by decide +kernel
theorem dX10_window_168 : decode cX10_window 168 = .ok (.ifCond .ne 8, 3) := by decide +kernel
theorem dX10_window_171 : decode cX10_window 171 = .ok (.iload 5, 2) := by decide +kernel
theorem dX10_window_173 : decode cX10_window 173 = .ok (.goto 25, 3) := by decide +kernel
theorem dX10_window_176 : decode cX10_window 176 = .ok (.iload_n 3, 1) := by decide +kernel
theorem dX10_window_177 : decode cX10_window 177 = .ok (.iconst 1, 1) := by decide +kernel
theorem dX10_window_178 : decode cX10_window 178 = .ok (.if_icmp .ne 8, 3) := by decide +kernel
theorem dX10_window_181 : decode cX10_window 181 = .ok (.iload 6, 2) := by decide +kernel
theorem dX10_window_183 : decode cX10_window 183 = .ok (.goto 15, 3) := by decide +kernel
theorem dX10_window_186 : decode cX10_window 186 = .ok (.iload_n 3, 1) := by decide +kernel
theorem dX10_window_187 : decode cX10_window 187 = .ok (.iconst 2, 1) := by decide +kernel
theorem dX10_window_188 : decode cX10_window 188 = .ok (.if_icmp .ne 8, 3) := by decide +kernel
theorem dX10_window_191 : decode cX10_window 191 = .ok (.iload 7, 2) := by decide +kernel
theorem dX10_window_193 : decode cX10_window 193 = .ok (.goto 5, 3) := by decide +kernel
theorem dX10_window_196 : decode cX10_window 196 = .ok (.iload 8, 2) := by decide +kernel
theorem dX10_window_198 : decode cX10_window 198 = .ok (.ireturn, 1) := by decide +kernel
theorem hd_yX10_window : yX10_window.cls = RX10 ∧ yX10_window.cls ≠ "java/lang/invoke/MethodHandle" ∧ yX10_window.cls ≠ "java/lang/invoke/VarHandle" ∧ (parseMethodDescriptor yX10_window.desc).map (fun d => d.parameters.length) = some 3 := by decide +kernel
def uX10_window : List Cond := List.cons (.code yX10_window cX10_window 10 (some .int)) (HAppend.hAppend ([.methodLink RX10 89 yX10_isLaw, .instanceMethod yX10_isLaw, .selects RX10 yX10_isLaw yX10_isLaw, .initialized RX10, .fieldLink RX10 9 "LuckyTicketModel" "world" "[I", .methodLink RX10 82 yX10_in, .static yX10_in, .constantLong RX10 375 (3), .methodLink RX10 319 yX10_rankOf, .instanceMethod yX10_rankOf, .selects RX10 yX10_rankOf yX10_rankOf, .fieldLink RX10 20 "LuckyTicketModel" "luck" "[I", .methodLink RX10 427 yJ9_max_7cf53, .static yJ9_max_7cf53, .initialized RJ9, .code yJ9_max_7cf53 cJ9_max_7cf53 2 (some .int), .methodLink RX10 128 yJ9_min_7cf53, .static yJ9_min_7cf53, .code yJ9_min_7cf53 cJ9_min_7cf53 2 (some .int)] : List Cond) (HAppend.hAppend uX10_isLaw (HAppend.hAppend uX10_in (HAppend.hAppend uX10_rankOf wsX100))))
theorem iX10_window_X10 : ∀ w ∈ wsX100, w ∈ uX10_window := fun _ h => (List.mem_cons_of_mem _ (List.mem_append_right _ (List.mem_append_right _ (List.mem_append_right _ (List.mem_append_right _ h)))))
theorem guX10_window : GU uX10_window := gu_cons (gu_app (by decide +kernel) (gu_ap guX10_isLaw (gu_ap guX10_in (gu_ap guX10_rankOf gws_X10))))
theorem gX10_window__X10_isLaw_V89 : GoodIn uX10_window (wsV RX10 89 RX10 yX10_isLaw uX10_isLaw) := gin_V (List.mem_of_getElem? (i := 1) rfl) (List.mem_of_getElem? (i := 2) rfl) (List.mem_of_getElem? (i := 3) rfl) (List.mem_of_getElem? (i := 4) rfl) (fun _ h => (List.mem_cons_of_mem _ (List.mem_append_right _ (List.mem_append_left _ h)))) guX10_isLaw
theorem gX10_window__X10_in_S82 : GoodIn uX10_window (va_wsS RX10 82 yX10_in uX10_in) := gin_S (List.mem_of_getElem? (i := 6) rfl) (List.mem_of_getElem? (i := 7) rfl) (List.mem_of_getElem? (i := 4) rfl) (fun _ h => (List.mem_cons_of_mem _ (List.mem_append_right _ (List.mem_append_right _ (List.mem_append_left _ h))))) guX10_in
theorem gX10_window__X10_rankOf_V319 : GoodIn uX10_window (wsV RX10 319 RX10 yX10_rankOf uX10_rankOf) := gin_V (List.mem_of_getElem? (i := 9) rfl) (List.mem_of_getElem? (i := 10) rfl) (List.mem_of_getElem? (i := 11) rfl) (List.mem_of_getElem? (i := 4) rfl) (fun _ h => (List.mem_cons_of_mem _ (List.mem_append_right _ (List.mem_append_right _ (List.mem_append_right _ (List.mem_append_left _ h)))))) guX10_rankOf
set_option maxHeartbeats 4000000 in
set_option maxRecDepth 100000 in
theorem kX10_window (l : Launch) (dC : Nat → ClassId) (dI : Nat → Nat → Nat) (o0 : Nat) (x_th : Int32) (mwo : Nat) (mim : Nat) (mhi : Nat) (mlu : Nat) (mtp : Nat) (x_td : Int32) (mfv : Nat) (x_sz : Int32) (x_at : Int32) (x_fr : Int32) (x_to : Int32) (x_va : Int32) (x_fk : Int32) (x_fp : Int32) (mfr : Nat) (mwt : Nat) (x_wt : Int32) (x_op : Int32) (x_jo : Int32) (mfg : Nat) (mpl : Nat) (x_dr : Int64) (mtm : Nat) (mfa : Nat) (mqu : Nat) (mmo : Nat) (mwy : Nat) (mwn : Nat) (mma : Nat) (mwi : Nat) (mnu : Nat) (mmv : Nat) (c_wo : ClassId) (c_lu : ClassId) (w_wo : Nat → Int32) (w_lu : Nat → Int32) (ln : Int32) (bs : Int32) (tk : Int32) (lw : Int32) (li : Int32) (a1 : Int32) (a2 : Int32) (a3 : Int32) (b_ln : (0 : Int) ≤ ln.toInt ∧ ln.toInt ≤ 12) (b_bs : (0 : Int) ≤ bs.toInt ∧ bs.toInt ≤ 16) (b_tk : (0 : Int) ≤ tk.toInt ∧ tk.toInt ≤ 20000) (b_lw : (0 : Int) ≤ lw.toInt ∧ lw.toInt ≤ 9) (hw0 : w_wo 0 = ln) (hw1 : w_wo 1 = bs) (hw2 : w_wo 2 = tk) (hw3 : w_wo 3 = lw) (hw4 : w_wo 4 = li) (hwz : (ln.toInt = 0 ∧ bs.toInt = 0 ∧ tk.toInt = 0 ∧ lw.toInt = 0) ∨ (1 ≤ ln.toInt ∧ 2 ≤ bs.toInt ∧ 1 ≤ tk.toInt)) : Met l yX10_window uX10_window ({ frames := 2, cells := 0, slots := 0, locals := 46 }) (va_Pc [.ref o0, .int a1, .int a2, .int a3] (pw (dC, dI) vwCl [(o0, .inr (8, [.int x_th, .ref mwo, .ref mim, .ref mhi, .ref mlu, .ref mtp, .int x_td, .ref mfv, .int x_sz, .int x_at, .int x_fr, .int x_to, .int x_va, .int x_fk, .int x_fp, .ref mfr, .ref mwt, .int x_wt, .int x_op, .int x_jo, .ref mfg, .ref mpl, .long x_dr, .ref mtm, .ref mfa, .ref mqu, .ref mmo, .ref mwy, .ref mwn, .ref mma, .ref mwi, .ref mnu, .ref mmv])), (mwo, .inl (c_wo, 1875, .inl w_wo)), (mlu, .inl (c_lu, 20000, .inl w_lu))] [(c_wo, .int), (c_lu, .int)])) (vp_Si (fun r => True)) 0 0 (fun _ => False) := by
  refine Met.ofW (cc := cX10_window) (maxL := 10) (ret := (some .int)) pn_X10 rfl ?_
  intro p e s m args below meth c s₁ B hml hv
  obtain ⟨rfl, hP, hK, hN⟩ := hv
  have hx := B.exec
  have hb := B.bytes
  have hr := B.returns
  have hts := atoms_spec (ws := uX10_window) B.pre
  have hown : s.vm.findClass RX10 = some m.cls := hown_of B.named rfl
  have hlocks := B.notSynchronized
  have hl := lv_entry ([.ref o0, .int a1, .int a2, .int a3]) (n := 10) (Nat.le_of_ble_eq_true rfl)
  rw [lg_entry_eq]
  generalize (lg_sl ([.ref o0, .int a1, .int a2, .int a3]) ++ List.replicate (10 - (lg_sl ([.ref o0, .int a1, .int a2, .int a3])).length) Slot.unset).toArray = ls at hl ⊢
  have hl : lv_has ls 10 [(0, .ref o0), (1, .int a1), (2, .int a2), (3, .int a3)] := hl
  refine lv_aload_n hx hb dX10_window_0 rfl (lv_at hl 0 rfl) ?_
  refine lv_iload_n hx hb dX10_window_1 rfl (lv_at hl 1 rfl) ?_
  refine vp_callSi (W.runV (As := [.int a1]) (rest := []) ⟨hx, hb, hml, hown, hts⟩ (kX10_isLaw l dC dI o0 x_th mwo mim mhi mlu mtp x_td mfv x_sz x_at x_fr x_to x_va x_fk x_fp mfr mwt x_wt x_op x_jo mfg mpl x_dr mtm mfa mqu mmo mwy mwn mma mwi mnu mmv c_wo w_wo ln bs tk lw li a1 b_ln b_bs b_tk b_lw (hw0) (hw1) (hw2) (hw3) (hw4) (hwz)) (cwV 1 hts gX10_window__X10_isLaw_V89 rfl rfl rfl hd_yX10_isLaw ⟨lel 2 2 rfl, lel 46 46 rfl⟩) ⟨pw_fb, rcv_X10 hK hP (q0 := 0) rfl, (pw_use hP hK hN [0, 1] rfl [0] rfl)⟩ rfl rfl hl.1 rfl (lv_room (Nat.le_of_ble_eq_true rfl)) dX10_window_2 ⟨lel 0 0 rfl, lel 0 0 rfl⟩) (fun r_315 h_r_315 => ?_)
  obtain ⟨b_r_315, nz_r_315⟩ := h_r_315
  have b_r_315 : (0 : Int) ≤ r_315.toInt ∧ r_315.toInt ≤ 1 := b_r_315
  refine lv_if_eq (tgt := 36) hx hb dX10_window_5 (by decide) (fun c_316 => ?_) (fun c_316 => ?_)
  ·
    have n_c_316 : (r_315.toInt : Int) = 0 := c_eq rfl (by decide) c_316
    have b_r_315 : (0 : Int) ≤ r_315.toInt ∧ r_315.toInt ≤ 0 := r_eq1 b_r_315 (by decide : (0 : Int) ≤ (0 : Int32).toInt ∧ (0 : Int32).toInt ≤ 0) n_c_316 (by decide)
    refine lv_bipush (v := (-2)) hx hb dX10_window_36 (by decide) ?_
    exact W.iret (v := (-2)) hx hb hr (fun t ht hW => ⟨(-2), rfl, trivial, ht⟩) t_nil dX10_window_38
  ·
    have n_c_316 : (r_315.toInt : Int) ≠ 0 := c_ne rfl (by decide) c_316
    have b_r_315 : (1 : Int) ≤ r_315.toInt ∧ r_315.toInt ≤ 1 := r_ne1 b_r_315 (by decide : (0 : Int) ≤ (0 : Int32).toInt ∧ (0 : Int32).toInt ≤ 0) n_c_316 (by decide)
    obtain ⟨b_a1, g_317⟩ := nz_r_315 c_316
    refine lv_iload_n hx hb dX10_window_8 rfl (lv_at hl 2 rfl) ?_
    obtain ⟨z_318, e_z_318⟩ : ∃ y : Int64, y = a2.toInt64 := ⟨_, rfl⟩
    refine lv_i2l (v := z_318) hx hb dX10_window_9 e_z_318.symm ?_
    obtain ⟨q_z_318, b_z_318⟩ := ti_i2l e_z_318 (ti_rng a2)
    refine lv_lconst (v := 1) hx hb dX10_window_10 (by decide) ?_
    refine lv_aload_n hx hb dX10_window_11 rfl (lv_at hl 0 rfl) ?_
    refine va_get (D := (dC, dI)) (ci := 8) (v := .ref mwo) (C := RX10) (T := TX10) (N := 33) hx hb hts iX10_window_X10 hown hK hP 0 rfl rfl 1 (by decide) (hts (.fieldLink RX10 9 "LuckyTicketModel" "world" "[I") (List.mem_of_getElem? (i := 5) rfl)) (fun _ h9 => h9) rfl dX10_window_12 ?_
    refine lv_iconst (v := 2) hx hb dX10_window_15 (by decide) ?_
    refine va_iald hx hb hK hP 1 0 rfl rfl (vp_in_b (by decide : (2 : Int) ≤ (2 : Int32).toInt ∧ (2 : Int32).toInt ≤ 2) (by decide) (by decide)) dX10_window_16 ?_
    refine lv_topi (fun z_319 e_z_319 => ?_)
    obtain rfl : tk = z_319 := (e_z_319.trans hw2).symm
    obtain ⟨z_320, e_z_320⟩ : ∃ y : Int64, y = tk.toInt64 := ⟨_, rfl⟩
    refine lv_i2l (v := z_320) hx hb dX10_window_17 e_z_320.symm ?_
    obtain ⟨q_z_320, b_z_320⟩ := ti_i2l e_z_320 b_tk
    refine vp_callSi (W.runS (As := [.long z_318, .long 1, .long z_320]) (rest := []) ⟨hx, hb, hml, hown, hts⟩ (kX10_in l dC dI z_318 1 z_320 ) (va_cwS 3 hts gX10_window__X10_in_S82 rfl rfl rfl hd_yX10_in.2 ⟨lel 1 2 rfl, lel 25 46 rfl⟩) ⟨pn_fb, pn_use⟩ rfl rfl hl.1 rfl (lv_room (Nat.le_of_ble_eq_true rfl)) dX10_window_18 ⟨lel 0 0 rfl, lel 0 0 rfl⟩) (fun r_321 h_r_321 => ?_)
    obtain ⟨b_r_321, nz_r_321⟩ := h_r_321
    have b_r_321 : (0 : Int) ≤ r_321.toInt ∧ r_321.toInt ≤ 1 := b_r_321
    refine lv_if_eq (tgt := 36) hx hb dX10_window_21 (by decide) (fun c_322 => ?_) (fun c_322 => ?_)
    ·
      have n_c_322 : (r_321.toInt : Int) = 0 := c_eq rfl (by decide) c_322
      have b_r_321 : (0 : Int) ≤ r_321.toInt ∧ r_321.toInt ≤ 0 := r_eq1 b_r_321 (by decide : (0 : Int) ≤ (0 : Int32).toInt ∧ (0 : Int32).toInt ≤ 0) n_c_322 (by decide)
      refine lv_bipush (v := (-2)) hx hb dX10_window_36 (by decide) ?_
      exact W.iret (v := (-2)) hx hb hr (fun t ht hW => ⟨(-2), rfl, trivial, ht⟩) t_nil dX10_window_38
    ·
      have n_c_322 : (r_321.toInt : Int) ≠ 0 := c_ne rfl (by decide) c_322
      have b_r_321 : (1 : Int) ≤ r_321.toInt ∧ r_321.toInt ≤ 1 := r_ne1 b_r_321 (by decide : (0 : Int) ≤ (0 : Int32).toInt ∧ (0 : Int32).toInt ≤ 0) n_c_322 (by decide)
      have g_323 := nz_r_321 c_322
      have lt0_g_323 := (by decide : (1 : Int64).toInt = 1)
      have b_z_318 : (1 : Int) ≤ z_318.toInt ∧ z_318.toInt ≤ 20000 := by
        have q0 := b_z_318
        have q1 := (by decide : (1 : Int) ≤ (1 : Int64).toInt ∧ (1 : Int64).toInt ≤ 1)
        have q2 := b_z_320
        omega
      have b_a2 : (1 : Int) ≤ a2.toInt ∧ a2.toInt ≤ 20000 := by
        have q0 := b_z_318; have q1 := q_z_318; have q2 := (ti_rng a2); omega
      refine lv_iload_n hx hb dX10_window_24 rfl (lv_at hl 3 rfl) ?_
      obtain ⟨z_324, e_z_324⟩ : ∃ y : Int64, y = a3.toInt64 := ⟨_, rfl⟩
      refine lv_i2l (v := z_324) hx hb dX10_window_25 e_z_324.symm ?_
      obtain ⟨q_z_324, b_z_324⟩ := ti_i2l e_z_324 (ti_rng a3)
      refine lv_lconst (v := 0) hx hb dX10_window_26 (by decide) ?_
      refine lv_ldc2 (v := 3) hx hb hown (hts (.constantLong RX10 375 (3)) (List.mem_of_getElem? (i := 8) rfl)) dX10_window_27 ?_
      refine vp_callSi (W.runS (As := [.long z_324, .long 0, .long 3]) (rest := []) ⟨hx, hb, hml, hown, hts⟩ (kX10_in l dC dI z_324 0 3 ) (va_cwS 3 hts gX10_window__X10_in_S82 rfl rfl rfl hd_yX10_in.2 ⟨lel 1 2 rfl, lel 25 46 rfl⟩) ⟨pn_fb, pn_use⟩ rfl rfl hl.1 rfl (lv_room (Nat.le_of_ble_eq_true rfl)) dX10_window_30 ⟨lel 0 0 rfl, lel 0 0 rfl⟩) (fun r_325 h_r_325 => ?_)
      obtain ⟨b_r_325, nz_r_325⟩ := h_r_325
      have b_r_325 : (0 : Int) ≤ r_325.toInt ∧ r_325.toInt ≤ 1 := b_r_325
      refine lv_if_ne (tgt := 39) hx hb dX10_window_33 (by decide) (fun c_326 => ?_) (fun c_326 => ?_)
      ·
        have n_c_326 : (r_325.toInt : Int) ≠ 0 := c_ne rfl (by decide) c_326
        have b_r_325 : (1 : Int) ≤ r_325.toInt ∧ r_325.toInt ≤ 1 := r_ne1 b_r_325 (by decide : (0 : Int) ≤ (0 : Int32).toInt ∧ (0 : Int32).toInt ≤ 0) n_c_326 (by decide)
        have g_327 := nz_r_325 c_326
        have lt0_g_327 := (by decide : (0 : Int64).toInt = 0)
        have lt1_g_327 := (by decide : (3 : Int64).toInt = 3)
        have b_z_324 : (0 : Int) ≤ z_324.toInt ∧ z_324.toInt ≤ 3 := by
          have q0 := b_z_324
          have q1 := (by decide : (0 : Int) ≤ (0 : Int64).toInt ∧ (0 : Int64).toInt ≤ 0)
          have q2 := (by decide : (3 : Int) ≤ (3 : Int64).toInt ∧ (3 : Int64).toInt ≤ 3)
          omega
        have b_a3 : (0 : Int) ≤ a3.toInt ∧ a3.toInt ≤ 3 := by
          have q0 := b_z_324; have q1 := q_z_324; have q2 := (ti_rng a3); omega
        refine lv_aload_n hx hb dX10_window_39 rfl (lv_at hl 0 rfl) ?_
        refine lv_iload_n hx hb dX10_window_40 rfl (lv_at hl 1 rfl) ?_
        refine lv_iload_n hx hb dX10_window_41 rfl (lv_at hl 2 rfl) ?_
        refine vp_callSi (W.runV (As := [.int a1, .int a2]) (rest := []) ⟨hx, hb, hml, hown, hts⟩ (kX10_rankOf l dC dI o0 x_th mwo mim mhi mlu mtp x_td mfv x_sz x_at x_fr x_to x_va x_fk x_fp mfr mwt x_wt x_op x_jo mfg mpl x_dr mtm mfa mqu mmo mwy mwn mma mwi mnu mmv c_wo c_lu w_wo w_lu ln bs tk lw li a1 a2 b_ln b_bs b_tk b_lw (rg_w b_a2 (by decide) (by decide)) (hw0) (hw1) (hw2) (hw3) (hw4) (hwz)) (cwV 2 hts gX10_window__X10_rankOf_V319 rfl rfl rfl hd_yX10_rankOf ⟨lel 1 2 rfl, lel 24 46 rfl⟩) ⟨pw_fb, rcv_X10 hK hP (q0 := 0) rfl, (pw_use hP hK hN [0, 1, 2] rfl [0, 1] rfl)⟩ rfl rfl hl.1 rfl (lv_room (Nat.le_of_ble_eq_true rfl)) dX10_window_42 ⟨lel 0 0 rfl, lel 0 0 rfl⟩) (fun r_328 h_r_328 => ?_)
        obtain ⟨b_r_328, pr_r_328⟩ := h_r_328
        have b_r_328 : (0 : Int) ≤ r_328.toInt ∧ r_328.toInt ≤ 20000 := b_r_328
        refine lv_istore (lv' := [(4, .int r_328), (0, .ref o0), (1, .int a1), (2, .int a2), (3, .int a3)]) hx hb dX10_window_45 hl (by decide) rfl (fun ls hl => ?_)
        refine lv_iload hx hb dX10_window_47 (lv_at hl 0 rfl) ?_
        refine lv_istore (lv' := [(5, .int r_328), (4, .int r_328), (0, .ref o0), (1, .int a1), (2, .int a2), (3, .int a3)]) hx hb dX10_window_49 hl (by decide) rfl (fun ls hl => ?_)
        refine lv_iconst (v := 0) hx hb dX10_window_51 (by decide) ?_
        refine lv_istore (lv' := [(6, .int 0), (5, .int r_328), (4, .int r_328), (0, .ref o0), (1, .int a1), (2, .int a2), (3, .int a3)]) hx hb dX10_window_52 hl (by decide) rfl (fun ls hl => ?_)
        refine lv_iload hx hb dX10_window_54 (lv_at hl 2 rfl) ?_
        refine lv_istore (lv' := [(7, .int r_328), (6, .int 0), (5, .int r_328), (4, .int r_328), (0, .ref o0), (1, .int a1), (2, .int a2), (3, .int a3)]) hx hb dX10_window_56 hl (by decide) rfl (fun ls hl => ?_)
        refine lv_iconst (v := 0) hx hb dX10_window_58 (by decide) ?_
        refine lv_istore (lv' := [(8, .int 0), (7, .int r_328), (6, .int 0), (5, .int r_328), (4, .int r_328), (0, .ref o0), (1, .int a1), (2, .int a2), (3, .int a3)]) hx hb dX10_window_59 hl (by decide) rfl (fun ls hl => ?_)
        refine lv_iconst (v := 1) hx hb dX10_window_61 (by decide) ?_
        refine lv_istore (lv' := [(9, .int 1), (8, .int 0), (7, .int r_328), (6, .int 0), (5, .int r_328), (4, .int r_328), (0, .ref o0), (1, .int a1), (2, .int a2), (3, .int a3)]) hx hb dX10_window_62 hl (by decide) rfl (fun ls hl => ?_)
        refine loopP (σ := Int32 × Int32 × Int32 × Int32 × Int32 × Int32) (fun v => (20000 - v.1.toInt).toNat) (fun v ls => ((1 : Int) ≤ v.1.toInt ∧ v.1.toInt ≤ 20000) ∧ ((0 : Int) ≤ v.2.1.toInt ∧ v.2.1.toInt ≤ 19999) ∧ ((-2147483648 : Int) ≤ v.2.2.1.toInt ∧ v.2.2.1.toInt ≤ 20000) ∧ ((0 : Int) ≤ v.2.2.2.1.toInt ∧ v.2.2.2.1.toInt ≤ 19999) ∧ ((0 : Int) ≤ v.2.2.2.2.1.toInt ∧ v.2.2.2.2.1.toInt ≤ 2147483647) ∧ lv_has ls 10 [(9, .int v.1), (8, .int v.2.1), (7, .int v.2.2.1), (6, .int v.2.2.2.1), (5, .int v.2.2.2.2.1), (4, .int v.2.2.2.2.2), (0, .ref o0), (1, .int a1), (2, .int a2), (3, .int a3)]) (fun v ls hI ih_64_586 => ?_) ((1 : Int32), (0 : Int32), r_328, (0 : Int32), r_328, r_328) ⟨(show (1 : Int) ≤ (1 : Int32).toInt ∧ (1 : Int32).toInt ≤ 20000 from (rg_w (by decide : (1 : Int) ≤ (1 : Int32).toInt ∧ (1 : Int32).toInt ≤ 1) (by decide) (by decide))), (show (0 : Int) ≤ (0 : Int32).toInt ∧ (0 : Int32).toInt ≤ 19999 from (rg_w (by decide : (0 : Int) ≤ (0 : Int32).toInt ∧ (0 : Int32).toInt ≤ 0) (by decide) (by decide))), (show (-2147483648 : Int) ≤ r_328.toInt ∧ r_328.toInt ≤ 20000 from (rg_w b_r_328 (by decide) (by decide))), (show (0 : Int) ≤ (0 : Int32).toInt ∧ (0 : Int32).toInt ≤ 19999 from (rg_w (by decide : (0 : Int) ≤ (0 : Int32).toInt ∧ (0 : Int32).toInt ≤ 0) (by decide) (by decide))), (show (0 : Int) ≤ r_328.toInt ∧ r_328.toInt ≤ 2147483647 from (rg_w b_r_328 (by decide) (by decide))), lv_sub hl [0, 1, 2, 3, 4, 5, 6, 7, 8, 9] rfl⟩
        obtain ⟨y_371, y_372, y_373, y_374, y_375, y_376⟩ := v
        obtain ⟨b_y_371, b_y_372, b_y_373, b_y_374, b_y_375, hl⟩ := hI
        have b_y_371 : (1 : Int) ≤ y_371.toInt ∧ y_371.toInt ≤ 20000 := b_y_371
        have b_y_372 : (0 : Int) ≤ y_372.toInt ∧ y_372.toInt ≤ 19999 := b_y_372
        have b_y_373 : (-2147483648 : Int) ≤ y_373.toInt ∧ y_373.toInt ≤ 20000 := b_y_373
        have b_y_374 : (0 : Int) ≤ y_374.toInt ∧ y_374.toInt ≤ 19999 := b_y_374
        have b_y_375 : (0 : Int) ≤ y_375.toInt ∧ y_375.toInt ≤ 2147483647 := b_y_375
        have hl : lv_has ls 10 [(9, .int y_371), (8, .int y_372), (7, .int y_373), (6, .int y_374), (5, .int y_375), (4, .int y_376), (0, .ref o0), (1, .int a1), (2, .int a2), (3, .int a3)] := hl
        refine lv_iload hx hb dX10_window_64 (lv_at hl 0 rfl) ?_
        refine lv_iload_n hx hb dX10_window_66 rfl (lv_at hl 8 rfl) ?_
        refine lv_iadd hx hb dX10_window_67 ?_
        refine lv_topi (fun z_587 e_z_587 => ?_)
        obtain ⟨q_z_587, b_z_587⟩ := ti_add (lo := 2) (hi := 40000) e_z_587 rfl rfl b_y_371 b_a2 (by decide)
        refine lv_aload_n hx hb dX10_window_68 rfl (lv_at hl 6 rfl) ?_
        refine va_get (D := (dC, dI)) (ci := 8) (v := .ref mwo) (C := RX10) (T := TX10) (N := 33) hx hb hts iX10_window_X10 hown hK hP 0 rfl rfl 1 (by decide) (hts (.fieldLink RX10 9 "LuckyTicketModel" "world" "[I") (List.mem_of_getElem? (i := 5) rfl)) (fun _ h9 => h9) rfl dX10_window_69 ?_
        refine lv_iconst (v := 2) hx hb dX10_window_72 (by decide) ?_
        refine va_iald hx hb hK hP 1 0 rfl rfl (vp_in_b (by decide : (2 : Int) ≤ (2 : Int32).toInt ∧ (2 : Int32).toInt ≤ 2) (by decide) (by decide)) dX10_window_73 ?_
        refine lv_topi (fun z_588 e_z_588 => ?_)
        obtain rfl : tk = z_588 := (e_z_588.trans hw2).symm
        refine lv_icmp_gt (tgt := 167) hx hb dX10_window_74 (by decide) (fun c_589 => ?_) (fun c_589 => ?_)
        ·
          have n_c_589 : (tk.toInt : Int) < z_587.toInt := c_gt rfl rfl c_589
          refine lv_iload_n hx hb dX10_window_167 rfl (lv_at hl 9 rfl) ?_
          refine lv_if_ne (tgt := 176) hx hb dX10_window_168 (by decide) (fun c_608 => ?_) (fun c_608 => ?_)
          ·
            have n_c_608 : (a3.toInt : Int) ≠ 0 := c_ne rfl (by decide) c_608
            have b_a3 : (1 : Int) ≤ a3.toInt ∧ a3.toInt ≤ 3 := r_ne1 b_a3 (by decide : (0 : Int) ≤ (0 : Int32).toInt ∧ (0 : Int32).toInt ≤ 0) n_c_608 (by decide)
            refine lv_iload_n hx hb dX10_window_176 rfl (lv_at hl 9 rfl) ?_
            refine lv_iconst (v := 1) hx hb dX10_window_177 (by decide) ?_
            refine lv_icmp_ne (tgt := 186) hx hb dX10_window_178 (by decide) (fun c_609 => ?_) (fun c_609 => ?_)
            ·
              have n_c_609 : (a3.toInt : Int) ≠ 1 := c_ne rfl (by decide) c_609
              have b_a3 : (2 : Int) ≤ a3.toInt ∧ a3.toInt ≤ 3 := r_ne1 b_a3 (by decide : (1 : Int) ≤ (1 : Int32).toInt ∧ (1 : Int32).toInt ≤ 1) n_c_609 (by decide)
              refine lv_iload_n hx hb dX10_window_186 rfl (lv_at hl 9 rfl) ?_
              refine lv_iconst (v := 2) hx hb dX10_window_187 (by decide) ?_
              refine lv_icmp_ne (tgt := 196) hx hb dX10_window_188 (by decide) (fun c_610 => ?_) (fun c_610 => ?_)
              ·
                have n_c_610 : (a3.toInt : Int) ≠ 2 := c_ne rfl (by decide) c_610
                have b_a3 : (3 : Int) ≤ a3.toInt ∧ a3.toInt ≤ 3 := r_ne1 b_a3 (by decide : (2 : Int) ≤ (2 : Int32).toInt ∧ (2 : Int32).toInt ≤ 2) n_c_610 (by decide)
                refine lv_iload hx hb dX10_window_196 (lv_at hl 1 rfl) ?_
                exact W.iret (v := y_372) hx hb hr (fun t ht hW => ⟨y_372, rfl, trivial, ht⟩) t_nil dX10_window_198
              ·
                have n_c_610 : (a3.toInt : Int) = 2 := c_eq rfl (by decide) c_610
                have b_a3 : (2 : Int) ≤ a3.toInt ∧ a3.toInt ≤ 2 := r_eq1 b_a3 (by decide : (2 : Int) ≤ (2 : Int32).toInt ∧ (2 : Int32).toInt ≤ 2) n_c_610 (by decide)
                refine lv_iload hx hb dX10_window_191 (lv_at hl 2 rfl) ?_
                refine lv_goto (tgt := 198) hx hb dX10_window_193 (by decide) ?_
                exact W.iret (v := y_373) hx hb hr (fun t ht hW => ⟨y_373, rfl, trivial, ht⟩) t_nil dX10_window_198
            ·
              have n_c_609 : (a3.toInt : Int) = 1 := c_eq rfl (by decide) c_609
              have b_a3 : (1 : Int) ≤ a3.toInt ∧ a3.toInt ≤ 1 := r_eq1 b_a3 (by decide : (1 : Int) ≤ (1 : Int32).toInt ∧ (1 : Int32).toInt ≤ 1) n_c_609 (by decide)
              refine lv_iload hx hb dX10_window_181 (lv_at hl 3 rfl) ?_
              refine lv_goto (tgt := 198) hx hb dX10_window_183 (by decide) ?_
              exact W.iret (v := y_374) hx hb hr (fun t ht hW => ⟨y_374, rfl, trivial, ht⟩) t_nil dX10_window_198
          ·
            have n_c_608 : (a3.toInt : Int) = 0 := c_eq rfl (by decide) c_608
            have b_a3 : (0 : Int) ≤ a3.toInt ∧ a3.toInt ≤ 0 := r_eq1 b_a3 (by decide : (0 : Int) ≤ (0 : Int32).toInt ∧ (0 : Int32).toInt ≤ 0) n_c_608 (by decide)
            refine lv_iload hx hb dX10_window_171 (lv_at hl 4 rfl) ?_
            refine lv_goto (tgt := 198) hx hb dX10_window_173 (by decide) ?_
            exact W.iret (v := y_375) hx hb hr (fun t ht hW => ⟨y_375, rfl, trivial, ht⟩) t_nil dX10_window_198
        ·
          have n_c_589 : (z_587.toInt : Int) ≤ tk.toInt := c_ngt rfl rfl c_589
          have b_z_587 : (2 : Int) ≤ z_587.toInt ∧ z_587.toInt ≤ 20000 := r_le1 b_z_587 b_tk n_c_589 (by decide)
          have b_y_371 : (1 : Int) ≤ y_371.toInt ∧ y_371.toInt ≤ 19999 := by
            have q0 := b_z_587; have q1 := q_z_587; have q2 := b_y_371; have q3 := b_a2; omega
          have b_a2 : (1 : Int) ≤ a2.toInt ∧ a2.toInt ≤ 19999 := by
            have q0 := b_z_587; have q1 := q_z_587; have q2 := b_a2; have q3 := b_y_371; omega
          have b_tk : (2 : Int) ≤ tk.toInt ∧ tk.toInt ≤ 20000 := r_le2 b_z_587 b_tk n_c_589 (by decide)
          refine lv_iload hx hb dX10_window_77 (lv_at hl 5 rfl) ?_
          refine lv_aload_n hx hb dX10_window_79 rfl (lv_at hl 6 rfl) ?_
          refine va_get (D := (dC, dI)) (ci := 8) (v := .ref mlu) (C := RX10) (T := TX10) (N := 33) hx hb hts iX10_window_X10 hown hK hP 0 rfl rfl 4 (by decide) (hts (.fieldLink RX10 20 "LuckyTicketModel" "luck" "[I") (List.mem_of_getElem? (i := 12) rfl)) (fun _ h9 => h9) rfl dX10_window_80 ?_
          refine lv_iload hx hb dX10_window_83 (lv_at hl 0 rfl) ?_
          refine lv_iload_n hx hb dX10_window_85 rfl (lv_at hl 8 rfl) ?_
          refine lv_iadd hx hb dX10_window_86 ?_
          refine lv_topi (fun z_611 e_z_611 => ?_)
          obtain ⟨q_z_611, b_z_611⟩ := ti_add (lo := 2) (hi := 39998) e_z_611 rfl rfl b_y_371 b_a2 (by decide)
          refine lv_iconst (v := 1) hx hb dX10_window_87 (by decide) ?_
          refine lv_isub hx hb dX10_window_88 ?_
          refine lv_topi (fun z_612 e_z_612 => ?_)
          obtain ⟨q_z_612, b_z_612⟩ := ti_sub (lo := 1) (hi := 39997) e_z_612 rfl (by decide : (1 : Int32).toInt = 1) b_z_611 (by decide : (1 : Int) ≤ (1 : Int32).toInt ∧ (1 : Int32).toInt ≤ 1) (by decide)
          refine va_iald hx hb hK hP 2 1 rfl rfl (vp_in_iff.mpr ⟨by omega, by omega⟩) dX10_window_89 ?_
          refine lv_topi (fun z_613 e_z_613 => ?_)
          refine lv_iload_n hx hb dX10_window_90 rfl (lv_at hl 7 rfl) ?_
          refine lv_ishr hx hb dX10_window_91 ?_
          refine lv_topi (fun z_614 e_z_614 => ?_)
          refine lv_iconst (v := 1) hx hb dX10_window_92 (by decide) ?_
          refine lv_iand hx hb dX10_window_93 ?_
          refine lv_topi (fun z_615 e_z_615 => ?_)
          have b_z_615 : (0 : Int) ≤ z_615.toInt ∧ z_615.toInt ≤ 1 := ti_and (k := 1) e_z_615 (by decide) (by decide) (by decide)
          refine lv_aload_n hx hb dX10_window_94 rfl (lv_at hl 6 rfl) ?_
          refine va_get (D := (dC, dI)) (ci := 8) (v := .ref mlu) (C := RX10) (T := TX10) (N := 33) hx hb hts iX10_window_X10 hown hK hP 0 rfl rfl 4 (by decide) (hts (.fieldLink RX10 20 "LuckyTicketModel" "luck" "[I") (List.mem_of_getElem? (i := 12) rfl)) (fun _ h9 => h9) rfl dX10_window_95 ?_
          refine lv_iload hx hb dX10_window_98 (lv_at hl 0 rfl) ?_
          refine lv_iconst (v := 1) hx hb dX10_window_100 (by decide) ?_
          refine lv_isub hx hb dX10_window_101 ?_
          refine lv_topi (fun z_616 e_z_616 => ?_)
          obtain ⟨q_z_616, b_z_616⟩ := ti_sub (lo := 0) (hi := 19998) e_z_616 rfl (by decide : (1 : Int32).toInt = 1) b_y_371 (by decide : (1 : Int) ≤ (1 : Int32).toInt ∧ (1 : Int32).toInt ≤ 1) (by decide)
          refine va_iald hx hb hK hP 2 1 rfl rfl (vp_in_b b_z_616 (by decide) (by decide)) dX10_window_102 ?_
          refine lv_topi (fun z_617 e_z_617 => ?_)
          refine lv_iload_n hx hb dX10_window_103 rfl (lv_at hl 7 rfl) ?_
          refine lv_ishr hx hb dX10_window_104 ?_
          refine lv_topi (fun z_618 e_z_618 => ?_)
          refine lv_iconst (v := 1) hx hb dX10_window_105 (by decide) ?_
          refine lv_iand hx hb dX10_window_106 ?_
          refine lv_topi (fun z_619 e_z_619 => ?_)
          have b_z_619 : (0 : Int) ≤ z_619.toInt ∧ z_619.toInt ≤ 1 := ti_and (k := 1) e_z_619 (by decide) (by decide) (by decide)
          refine lv_isub hx hb dX10_window_107 ?_
          refine lv_topi (fun z_620 e_z_620 => ?_)
          obtain ⟨q_z_620, b_z_620⟩ := ti_sub (lo := -1) (hi := 1) e_z_620 rfl rfl b_z_615 b_z_619 (by decide)
          refine lv_iadd hx hb dX10_window_108 ?_
          refine lv_topi (fun z_621 e_z_621 => ?_)
          refine lv_istore (lv' := [(4, .int z_621), (9, .int y_371), (8, .int y_372), (7, .int y_373), (6, .int y_374), (5, .int y_375), (0, .ref o0), (1, .int a1), (2, .int a2), (3, .int a3)]) hx hb dX10_window_109 hl (by decide) rfl (fun ls hl => ?_)
          refine lv_iload hx hb dX10_window_111 (lv_at hl 0 rfl) ?_
          refine lv_iload hx hb dX10_window_113 (lv_at hl 5 rfl) ?_
          refine cutP (σ := Int32) (pc2 := 125) (st2 := fun v => [.int v]) (cells2 := 0) (slots2 := 0) (fun v ls => ((0 : Int) ≤ v.toInt ∧ v.toInt ≤ 19999) ∧ lv_has ls 10 [(4, .int z_621), (9, .int y_371), (8, .int y_372), (7, .int y_373), (6, .int y_374), (5, .int y_375), (0, .ref o0), (1, .int a1), (2, .int a2), (3, .int a3)]) (fun v ls hI => ?_) (fun hj_125_623 => ?_)
          ·
            obtain ⟨y_623, rfl⟩ : ∃ z, z = v := ⟨_, rfl⟩
            obtain ⟨b_y_623, hl⟩ := hI
            have b_y_623 : (0 : Int) ≤ y_623.toInt ∧ y_623.toInt ≤ 19999 := b_y_623
            have hl : lv_has ls 10 [(4, .int z_621), (9, .int y_371), (8, .int y_372), (7, .int y_373), (6, .int y_374), (5, .int y_375), (0, .ref o0), (1, .int a1), (2, .int a2), (3, .int a3)] := hl
            refine lv_istore (lv' := [(6, .int y_623), (4, .int z_621), (9, .int y_371), (8, .int y_372), (7, .int y_373), (5, .int y_375), (0, .ref o0), (1, .int a1), (2, .int a2), (3, .int a3)]) hx hb dX10_window_125 hl (by decide) rfl (fun ls hl => ?_)
            refine lv_iload hx hb dX10_window_127 (lv_at hl 5 rfl) ?_
            refine lv_iload hx hb dX10_window_129 (lv_at hl 1 rfl) ?_
            refine va_mmax hx hb (hml.trans hl.1.symm) hown (hts (.methodLink RX10 427 yJ9_max_7cf53) (List.mem_of_getElem? (i := 13) rfl)) (hts (.static yJ9_max_7cf53) (List.mem_of_getElem? (i := 14) rfl)) (hts (.initialized RJ9) (List.mem_of_getElem? (i := 15) rfl)) (hts (.code yJ9_max_7cf53 cJ9_max_7cf53 2 (some .int)) (List.mem_of_getElem? (i := 16) rfl)) (lel 1 2 rfl) (Nat.le_of_ble_eq_true rfl) (lel 0 0 rfl) (lel 0 0 rfl) dX10_window_131 ?_
            refine lv_topi (fun z_624 e_z_624 => ?_)
            have q_z_624 := ti_max e_z_624 rfl rfl
            have b_z_624 : (0 : Int) ≤ z_624.toInt ∧ z_624.toInt ≤ 2147483647 := by
              have q0 := b_y_375; have q1 := (ti_rng z_621)
              omega
            refine lv_istore (lv' := [(5, .int z_624), (6, .int y_623), (4, .int z_621), (9, .int y_371), (8, .int y_372), (7, .int y_373), (0, .ref o0), (1, .int a1), (2, .int a2), (3, .int a3)]) hx hb dX10_window_134 hl (by decide) rfl (fun ls hl => ?_)
            refine lv_iload hx hb dX10_window_136 (lv_at hl 2 rfl) ?_
            refine lv_iload hx hb dX10_window_138 (lv_at hl 5 rfl) ?_
            refine cutP (σ := Int32) (pc2 := 150) (st2 := fun v => [.int v]) (cells2 := 0) (slots2 := 0) (fun v ls => ((0 : Int) ≤ v.toInt ∧ v.toInt ≤ 19999) ∧ lv_has ls 10 [(5, .int z_624), (6, .int y_623), (4, .int z_621), (9, .int y_371), (8, .int y_372), (7, .int y_373), (0, .ref o0), (1, .int a1), (2, .int a2), (3, .int a3)]) (fun v ls hI => ?_) (fun hj_150_626 => ?_)
            ·
              obtain ⟨y_626, rfl⟩ : ∃ z, z = v := ⟨_, rfl⟩
              obtain ⟨b_y_626, hl⟩ := hI
              have b_y_626 : (0 : Int) ≤ y_626.toInt ∧ y_626.toInt ≤ 19999 := b_y_626
              have hl : lv_has ls 10 [(5, .int z_624), (6, .int y_623), (4, .int z_621), (9, .int y_371), (8, .int y_372), (7, .int y_373), (0, .ref o0), (1, .int a1), (2, .int a2), (3, .int a3)] := hl
              refine lv_istore (lv' := [(8, .int y_626), (5, .int z_624), (6, .int y_623), (4, .int z_621), (9, .int y_371), (7, .int y_373), (0, .ref o0), (1, .int a1), (2, .int a2), (3, .int a3)]) hx hb dX10_window_150 hl (by decide) rfl (fun ls hl => ?_)
              refine lv_iload hx hb dX10_window_152 (lv_at hl 5 rfl) ?_
              refine lv_iload hx hb dX10_window_154 (lv_at hl 3 rfl) ?_
              refine va_mmin hx hb (hml.trans hl.1.symm) hown (hts (.methodLink RX10 128 yJ9_min_7cf53) (List.mem_of_getElem? (i := 17) rfl)) (hts (.static yJ9_min_7cf53) (List.mem_of_getElem? (i := 18) rfl)) (hts (.initialized RJ9) (List.mem_of_getElem? (i := 15) rfl)) (hts (.code yJ9_min_7cf53 cJ9_min_7cf53 2 (some .int)) (List.mem_of_getElem? (i := 19) rfl)) (lel 1 2 rfl) (Nat.le_of_ble_eq_true rfl) (lel 0 0 rfl) (lel 0 0 rfl) dX10_window_156 ?_
              refine lv_topi (fun z_627 e_z_627 => ?_)
              have q_z_627 := ti_min e_z_627 rfl rfl
              have b_z_627 : (-2147483648 : Int) ≤ z_627.toInt ∧ z_627.toInt ≤ 20000 := by
                have q0 := b_y_373; have q1 := (ti_rng z_621)
                omega
              refine lv_istore (lv' := [(7, .int z_627), (8, .int y_626), (5, .int z_624), (6, .int y_623), (4, .int z_621), (9, .int y_371), (0, .ref o0), (1, .int a1), (2, .int a2), (3, .int a3)]) hx hb dX10_window_159 hl (by decide) rfl (fun ls hl => ?_)
              obtain ⟨z_628, e_z_628⟩ : ∃ y : Int32, y = y_371 + 1 := ⟨_, rfl⟩
              refine lv_iinc (v := z_628) (lv' := [(9, .int z_628), (7, .int z_627), (8, .int y_626), (5, .int z_624), (6, .int y_623), (4, .int z_621), (0, .ref o0), (1, .int a1), (2, .int a2), (3, .int a3)]) hx hb dX10_window_161 hl (k := 5) rfl (by rw [e_z_628]; rfl) (by decide) rfl (fun ls hl => ?_)
              obtain ⟨q_z_628, b_z_628⟩ := ti_add (lo := 2) (hi := 20000) e_z_628 rfl (by decide : (1 : Int32).toInt = 1) b_y_371 (by decide : (1 : Int) ≤ (1 : Int32).toInt ∧ (1 : Int32).toInt ≤ 1) (by decide)
              refine lv_goto (tgt := 64) hx hb dX10_window_164 (by decide) ?_
              exact ih_64_586 (z_628, y_626, z_627, y_623, z_624, z_621) _ ⟨(show (1 : Int) ≤ z_628.toInt ∧ z_628.toInt ≤ 20000 from (rg_w b_z_628 (by decide) (by decide))), (show (0 : Int) ≤ y_626.toInt ∧ y_626.toInt ≤ 19999 from b_y_626), (show (-2147483648 : Int) ≤ z_627.toInt ∧ z_627.toInt ≤ 20000 from b_z_627), (show (0 : Int) ≤ y_623.toInt ∧ y_623.toInt ≤ 19999 from b_y_623), (show (0 : Int) ≤ z_624.toInt ∧ z_624.toInt ≤ 2147483647 from b_z_624), lv_sub hl [0, 2, 1, 4, 3, 5, 6, 7, 8, 9] rfl⟩ (show (20000 - z_628.toInt).toNat < (20000 - y_371.toInt).toNat by omega)
            ·
              refine lv_icmp_ge (tgt := 148) hx hb dX10_window_140 (by decide) (fun c_625 => ?_) (fun c_625 => ?_)
              ·
                have n_c_625 : (y_373.toInt : Int) ≤ z_621.toInt := c_ge rfl rfl c_625
                refine lv_iload hx hb dX10_window_148 (lv_at hl 4 rfl) ?_
                exact hj_150_626 y_372 _ ⟨(show (0 : Int) ≤ y_372.toInt ∧ y_372.toInt ≤ 19999 from b_y_372), lv_sub hl [0, 1, 2, 3, 4, 5, 6, 7, 8, 9] rfl⟩
              ·
                have n_c_625 : (z_621.toInt : Int) < y_373.toInt := c_nge rfl rfl c_625
                have b_z_621 : (-2147483648 : Int) ≤ z_621.toInt ∧ z_621.toInt ≤ 19999 := r_lt1 (ti_rng z_621) b_y_373 n_c_625 (by decide)
                have b_y_373 : (-2147483647 : Int) ≤ y_373.toInt ∧ y_373.toInt ≤ 20000 := r_lt2 (ti_rng z_621) b_y_373 n_c_625 (by decide)
                refine lv_iload hx hb dX10_window_143 (lv_at hl 3 rfl) ?_
                refine lv_goto (tgt := 150) hx hb dX10_window_145 (by decide) ?_
                exact hj_150_626 y_371 _ ⟨(show (0 : Int) ≤ y_371.toInt ∧ y_371.toInt ≤ 19999 from (rg_w b_y_371 (by decide) (by decide))), lv_sub hl [0, 1, 2, 3, 4, 5, 6, 7, 8, 9] rfl⟩
          ·
            refine lv_icmp_le (tgt := 123) hx hb dX10_window_115 (by decide) (fun c_622 => ?_) (fun c_622 => ?_)
            ·
              have n_c_622 : (z_621.toInt : Int) ≤ y_375.toInt := c_le rfl rfl c_622
              refine lv_iload hx hb dX10_window_123 (lv_at hl 4 rfl) ?_
              exact hj_125_623 y_374 _ ⟨(show (0 : Int) ≤ y_374.toInt ∧ y_374.toInt ≤ 19999 from b_y_374), lv_sub hl [0, 1, 2, 3, 4, 5, 6, 7, 8, 9] rfl⟩
            ·
              have n_c_622 : (y_375.toInt : Int) < z_621.toInt := c_nle rfl rfl c_622
              have b_y_375 : (0 : Int) ≤ y_375.toInt ∧ y_375.toInt ≤ 2147483646 := r_lt1 b_y_375 (ti_rng z_621) n_c_622 (by decide)
              have b_z_621 : (1 : Int) ≤ z_621.toInt ∧ z_621.toInt ≤ 2147483647 := r_lt2 b_y_375 (ti_rng z_621) n_c_622 (by decide)
              refine lv_iload hx hb dX10_window_118 (lv_at hl 1 rfl) ?_
              refine lv_goto (tgt := 125) hx hb dX10_window_120 (by decide) ?_
              exact hj_125_623 y_371 _ ⟨(show (0 : Int) ≤ y_371.toInt ∧ y_371.toInt ≤ 19999 from (rg_w b_y_371 (by decide) (by decide))), lv_sub hl [0, 1, 2, 3, 4, 5, 6, 7, 8, 9] rfl⟩
      ·
        have n_c_326 : (r_325.toInt : Int) = 0 := c_eq rfl (by decide) c_326
        have b_r_325 : (0 : Int) ≤ r_325.toInt ∧ r_325.toInt ≤ 0 := r_eq1 b_r_325 (by decide : (0 : Int) ≤ (0 : Int32).toInt ∧ (0 : Int32).toInt ≤ 0) n_c_326 (by decide)
        refine lv_bipush (v := (-2)) hx hb dX10_window_36 (by decide) ?_
        exact W.iret (v := (-2)) hx hb hr (fun t ht hW => ⟨(-2), rfl, trivial, ht⟩) t_nil dX10_window_38
