theorem dX10_about_0 : decode cX10_about 0 = .ok (.aload_n 0, 1) := by decide +kernel
theorem dX10_about_1 : decode cX10_about 1 = .ok (.iload_n 1, 1) := by decide +kernel
theorem dX10_about_2 : decode cX10_about 2 = .ok (.i2l, 1) := by decide +kernel
theorem dX10_about_3 : decode cX10_about 3 = .ok (.invokevirtual 93, 3) := by decide +kernel
theorem dX10_about_6 : decode cX10_about 6 = .ok (.ifCond .ne 6, 3) := by decide +kernel
theorem dX10_about_9 : decode cX10_about 9 = .ok (.bipush (-2), 2) := by decide +kernel
theorem dX10_about_11 : decode cX10_about 11 = .ok (.ireturn, 1) := by decide +kernel
theorem dX10_about_12 : decode cX10_about 12 = .ok (.aload_n 0, 1) := by decide +kernel
theorem dX10_about_13 : decode cX10_about 13 = .ok (.iload_n 1, 1) := by decide +kernel
theorem dX10_about_14 : decode cX10_about 14 = .ok (.invokevirtual 302, 3) := by decide +kernel
theorem dX10_about_17 : decode cX10_about 17 = .ok (.iconst 0, 1) := by decide +kernel
theorem dX10_about_18 : decode cX10_about 18 = .ok (.istore_n 2, 1) := by decide +kernel
theorem dX10_about_19 : decode cX10_about 19 = .ok (.iconst 0, 1) := by decide +kernel
theorem dX10_about_20 : decode cX10_about 20 = .ok (.istore_n 3, 1) := by decide +kernel
theorem dX10_about_21 : decode cX10_about 21 = .ok (.iload_n 3, 1) := by decide +kernel
theorem dX10_about_22 : decode cX10_about 22 = .ok (.aload_n 0, 1) := by decide +kernel
theorem dX10_about_23 : decode cX10_about 23 = .ok (.getfield 9, 3) := by decide +kernel
theorem dX10_about_26 : decode cX10_about 26 = .ok (.iconst 0, 1) := by decide +kernel
theorem dX10_about_27 : decode cX10_about 27 = .ok (.iaload, 1) := by decide +kernel
theorem dX10_about_28 : decode cX10_about 28 = .ok (.if_icmp .ge 55, 3) := by decide +kernel
theorem dX10_about_31 : decode cX10_about 31 = .ok (.aload_n 0, 1) := by decide +kernel
theorem dX10_about_32 : decode cX10_about 32 = .ok (.getfield 9, 3) := by decide +kernel
theorem dX10_about_35 : decode cX10_about 35 = .ok (.iconst 1, 1) := by decide +kernel
theorem dX10_about_36 : decode cX10_about 36 = .ok (.iaload, 1) := by decide +kernel
theorem dX10_about_37 : decode cX10_about 37 = .ok (.iload_n 2, 1) := by decide +kernel
theorem dX10_about_38 : decode cX10_about 38 = .ok (.imul, 1) := by decide +kernel
theorem dX10_about_39 : decode cX10_about 39 = .ok (.aload_n 0, 1) := by decide +kernel
theorem dX10_about_40 : decode cX10_about 40 = .ok (.invokevirtual 283, 3) := by decide +kernel
theorem dX10_about_43 : decode cX10_about 43 = .ok (.iload_n 3, 1) := by decide +kernel
theorem dX10_about_44 : decode cX10_about 44 = .ok (.ishr, 1) := by decide +kernel
theorem dX10_about_45 : decode cX10_about 45 = .ok (.iconst 1, 1) := by decide +kernel
theorem dX10_about_46 : decode cX10_about 46 = .ok (.iand, 1) := by decide +kernel
theorem dX10_about_47 : decode cX10_about 47 = .ok (.iconst 1, 1) := by decide +kernel
theorem dX10_about_48 : decode cX10_about 48 = .ok (.if_icmp .ne 21, 3) := by decide +kernel
theorem dX10_about_51 : decode cX10_about 51 = .ok (.aload_n 0, 1) := by decide +kernel
theorem dX10_about_52 : decode cX10_about 52 = .ok (.getfield 9, 3) := by decide +kernel
theorem dX10_about_55 : decode cX10_about 55 = .ok (.iconst 1, 1) := by decide +kernel
theorem dX10_about_56 : decode cX10_about 56 = .ok (.iaload, 1) := by decide +kernel
theorem dX10_about_57 : decode cX10_about 57 = .ok (.iconst 1, 1) := by decide +kernel
theorem dX10_about_58 : decode cX10_about 58 = .ok (.isub, 1) := by decide +kernel
theorem dX10_about_59 : decode cX10_about 59 = .ok (.aload_n 0, 1) := by decide +kernel
theorem dX10_about_60 : decode cX10_about 60 = .ok (.getfield 40, 3) := by decide +kernel
theorem dX10_about_63 : decode cX10_about 63 = .ok (.iload_n 3, 1) := by decide +kernel
theorem dX10_about_64 : decode cX10_about 64 = .ok (.iaload, 1) := by decide +kernel
theorem dX10_about_65 : decode cX10_about 65 = .ok (.isub, 1) := by decide +kernel
theorem dX10_about_66 : decode cX10_about 66 = .ok (.goto 9, 3) := by decide +kernel
theorem dX10_about_69 : decode cX10_about 69 = .ok (.aload_n 0, 1) := by decide +kernel
theorem dX10_about_70 : decode cX10_about 70 = .ok (.getfield 40, 3) := by decide +kernel
theorem dX10_about_73 : decode cX10_about 73 = .ok (.iload_n 3, 1) := by decide +kernel
theorem dX10_about_74 : decode cX10_about 74 = .ok (.iaload, 1) := by decide +kernel
theorem dX10_about_75 : decode cX10_about 75 = .ok (.iadd, 1) := by decide +kernel
theorem dX10_about_76 : decode cX10_about 76 = .ok (.istore_n 2, 1) := by decide +kernel
theorem dX10_about_77 : decode cX10_about 77 = .ok (.iinc 3 1, 3) := by decide +kernel
theorem dX10_about_80 : decode cX10_about 80 = .ok (.goto (-59), 3) := by decide +kernel
theorem dX10_about_83 : decode cX10_about 83 = .ok (.iload_n 2, 1) := by decide +kernel
theorem dX10_about_84 : decode cX10_about 84 = .ok (.ireturn, 1) := by decide +kernel
theorem hd_yX10_about : yX10_about.cls = RX10 ∧ yX10_about.cls ≠ "java/lang/invoke/MethodHandle" ∧ yX10_about.cls ≠ "java/lang/invoke/VarHandle" ∧ (parseMethodDescriptor yX10_about.desc).map (fun d => d.parameters.length) = some 1 := by decide +kernel
def uX10_about : List Cond := List.cons (.code yX10_about cX10_about 4 (some .int)) (HAppend.hAppend ([.methodLink RX10 93 yX10_isTicket, .instanceMethod yX10_isTicket, .selects RX10 yX10_isTicket yX10_isTicket, .initialized RX10, .methodLink RX10 302 yX10_fillFigures, .instanceMethod yX10_fillFigures, .selects RX10 yX10_fillFigures yX10_fillFigures, .fieldLink RX10 9 "LuckyTicketModel" "world" "[I", .methodLink RX10 283 yX10_lastHalf, .instanceMethod yX10_lastHalf, .selects RX10 yX10_lastHalf yX10_lastHalf, .fieldLink RX10 40 "LuckyTicketModel" "figures" "[I"] : List Cond) (HAppend.hAppend uX10_isTicket (HAppend.hAppend uX10_fillFigures (HAppend.hAppend uX10_lastHalf wsX100))))
theorem iX10_about_X10 : ∀ w ∈ wsX100, w ∈ uX10_about := fun _ h => (List.mem_cons_of_mem _ (List.mem_append_right _ (List.mem_append_right _ (List.mem_append_right _ (List.mem_append_right _ h)))))
theorem guX10_about : GU uX10_about := gu_cons (gu_app (by decide +kernel) (gu_ap guX10_isTicket (gu_ap guX10_fillFigures (gu_ap guX10_lastHalf gws_X10))))
theorem gX10_about__X10_isTicket_V93 : GoodIn uX10_about (wsV RX10 93 RX10 yX10_isTicket uX10_isTicket) := gin_V (List.mem_of_getElem? (i := 1) rfl) (List.mem_of_getElem? (i := 2) rfl) (List.mem_of_getElem? (i := 3) rfl) (List.mem_of_getElem? (i := 4) rfl) (fun _ h => (List.mem_cons_of_mem _ (List.mem_append_right _ (List.mem_append_left _ h)))) guX10_isTicket
theorem gX10_about__X10_fillFigures_V302 : GoodIn uX10_about (wsV RX10 302 RX10 yX10_fillFigures uX10_fillFigures) := gin_V (List.mem_of_getElem? (i := 5) rfl) (List.mem_of_getElem? (i := 6) rfl) (List.mem_of_getElem? (i := 7) rfl) (List.mem_of_getElem? (i := 4) rfl) (fun _ h => (List.mem_cons_of_mem _ (List.mem_append_right _ (List.mem_append_right _ (List.mem_append_left _ h))))) guX10_fillFigures
theorem gX10_about__X10_lastHalf_V283 : GoodIn uX10_about (wsV RX10 283 RX10 yX10_lastHalf uX10_lastHalf) := gin_V (List.mem_of_getElem? (i := 9) rfl) (List.mem_of_getElem? (i := 10) rfl) (List.mem_of_getElem? (i := 11) rfl) (List.mem_of_getElem? (i := 4) rfl) (fun _ h => (List.mem_cons_of_mem _ (List.mem_append_right _ (List.mem_append_right _ (List.mem_append_right _ (List.mem_append_left _ h)))))) guX10_lastHalf
set_option maxHeartbeats 4000000 in
set_option maxRecDepth 100000 in
theorem kX10_about (l : Launch) (dC : Nat → ClassId) (dI : Nat → Nat → Nat) (o0 : Nat) (x_th : Int32) (mwo : Nat) (mim : Nat) (mhi : Nat) (mlu : Nat) (mtp : Nat) (x_td : Int32) (mfv : Nat) (x_sz : Int32) (x_at : Int32) (x_fr : Int32) (x_to : Int32) (x_va : Int32) (x_fk : Int32) (x_fp : Int32) (mfr : Nat) (mwt : Nat) (x_wt : Int32) (x_op : Int32) (x_jo : Int32) (mfg : Nat) (mpl : Nat) (x_dr : Int64) (mtm : Nat) (mfa : Nat) (mqu : Nat) (mmo : Nat) (mwy : Nat) (mwn : Nat) (mma : Nat) (mwi : Nat) (mnu : Nat) (mmv : Nat) (c_wo : ClassId) (c_fg : ClassId) (w_wo : Nat → Int32) (w_fg : Nat → Int32) (ln : Int32) (bs : Int32) (tk : Int32) (lw : Int32) (li : Int32) (a1 : Int32) (sz : Nat) (b_ln : (0 : Int) ≤ ln.toInt ∧ ln.toInt ≤ 12) (b_bs : (0 : Int) ≤ bs.toInt ∧ bs.toInt ≤ 16) (b_tk : (0 : Int) ≤ tk.toInt ∧ tk.toInt ≤ 20000) (b_lw : (0 : Int) ≤ lw.toInt ∧ lw.toInt ≤ 9) (ha_mfg : rg w_fg 12 0 15) (hw0 : w_wo 0 = ln) (hw1 : w_wo 1 = bs) (hw2 : w_wo 2 = tk) (hw3 : w_wo 3 = lw) (hw4 : w_wo 4 = li) (hwz : (ln.toInt = 0 ∧ bs.toInt = 0 ∧ tk.toInt = 0 ∧ lw.toInt = 0) ∨ (1 ≤ ln.toInt ∧ 2 ≤ bs.toInt ∧ 1 ≤ tk.toInt)) : Met l yX10_about uX10_about ({ frames := 2, cells := 0, slots := 0, locals := 47 }) (va_Pc [.ref o0, .int a1] (hw (dC, dI) vwCl [(o0, .inr (8, [.int x_th, .ref mwo, .ref mim, .ref mhi, .ref mlu, .ref mtp, .int x_td, .ref mfv, .int x_sz, .int x_at, .int x_fr, .int x_to, .int x_va, .int x_fk, .int x_fp, .ref mfr, .ref mwt, .int x_wt, .int x_op, .int x_jo, .ref mfg, .ref mpl, .long x_dr, .ref mtm, .ref mfa, .ref mqu, .ref mmo, .ref mwy, .ref mwn, .ref mma, .ref mwi, .ref mnu, .ref mmv])), (mwo, .inl (c_wo, 1875, .inl w_wo)), (mfg, .inl (c_fg, 12, .inl w_fg))] [(c_wo, .int), (c_fg, .int)] sz)) (va_Qi (fun (r : Int32) (_ : Unit) => True) (fun (_ : Unit) t => ∃ (o0_ : Nat → Int32), (rg o0_ 12 0 15) ∧ va_P (dC, dI) vwCl [(o0, .inr (8, [.int x_th, .ref mwo, .ref mim, .ref mhi, .ref mlu, .ref mtp, .int x_td, .ref mfv, .int x_sz, .int x_at, .int x_fr, .int x_to, .int x_va, .int x_fk, .int x_fp, .ref mfr, .ref mwt, .int x_wt, .int x_op, .int x_jo, .ref mfg, .ref mpl, .long x_dr, .ref mtm, .ref mfa, .ref mqu, .ref mmo, .ref mwy, .ref mwn, .ref mma, .ref mwi, .ref mnu, .ref mmv])), (mwo, .inl (c_wo, 1875, .inl w_wo)), (mfg, .inl (c_fg, 12, .inl o0_))] t.heap ∧ va_K (dC, dI) vwCl [(c_wo, .int), (c_fg, .int)] t ∧ va_D (va_A [(o0, .inr (8, [.int x_th, .ref mwo, .ref mim, .ref mhi, .ref mlu, .ref mtp, .int x_td, .ref mfv, .int x_sz, .int x_at, .int x_fr, .int x_to, .int x_va, .int x_fk, .int x_fp, .ref mfr, .ref mwt, .int x_wt, .int x_op, .int x_jo, .ref mfg, .ref mpl, .long x_dr, .ref mtm, .ref mfa, .ref mqu, .ref mmo, .ref mwy, .ref mwn, .ref mma, .ref mwi, .ref mnu, .ref mmv])), (mwo, .inl (c_wo, 1875, .inl w_wo)), (mfg, .inl (c_fg, 12, .inl w_fg))] sz) [(o0, .inr (8, [.int x_th, .ref mwo, .ref mim, .ref mhi, .ref mlu, .ref mtp, .int x_td, .ref mfv, .int x_sz, .int x_at, .int x_fr, .int x_to, .int x_va, .int x_fk, .int x_fp, .ref mfr, .ref mwt, .int x_wt, .int x_op, .int x_jo, .ref mfg, .ref mpl, .long x_dr, .ref mtm, .ref mfa, .ref mqu, .ref mmo, .ref mwy, .ref mwn, .ref mma, .ref mwi, .ref mnu, .ref mmv])), (mwo, .inl (c_wo, 1875, .inl w_wo)), (mfg, .inl (c_fg, 12, .inl o0_))]) (va_A [(o0, .inr (8, [.int x_th, .ref mwo, .ref mim, .ref mhi, .ref mlu, .ref mtp, .int x_td, .ref mfv, .int x_sz, .int x_at, .int x_fr, .int x_to, .int x_va, .int x_fk, .int x_fp, .ref mfr, .ref mwt, .int x_wt, .int x_op, .int x_jo, .ref mfg, .ref mpl, .long x_dr, .ref mtm, .ref mfa, .ref mqu, .ref mmo, .ref mwy, .ref mwn, .ref mma, .ref mwi, .ref mnu, .ref mmv])), (mwo, .inl (c_wo, 1875, .inl w_wo)), (mfg, .inl (c_fg, 12, .inl w_fg))] sz)) 0 0 (va_A [(o0, .inr (8, [.int x_th, .ref mwo, .ref mim, .ref mhi, .ref mlu, .ref mtp, .int x_td, .ref mfv, .int x_sz, .int x_at, .int x_fr, .int x_to, .int x_va, .int x_fk, .int x_fp, .ref mfr, .ref mwt, .int x_wt, .int x_op, .int x_jo, .ref mfg, .ref mpl, .long x_dr, .ref mtm, .ref mfa, .ref mqu, .ref mmo, .ref mwy, .ref mwn, .ref mma, .ref mwi, .ref mnu, .ref mmv])), (mwo, .inl (c_wo, 1875, .inl w_wo)), (mfg, .inl (c_fg, 12, .inl w_fg))] sz) := by
  refine Met.ofW (cc := cX10_about) (maxL := 4) (ret := (some .int)) pn_X10 rfl ?_
  intro p e s m args below meth c s₁ B hml hv
  obtain ⟨rfl, hsz, hP, hK, hD0, hN⟩ := hv
  have hx := B.exec
  have hb := B.bytes
  have hr := B.returns
  have hts := atoms_spec (ws := uX10_about) B.pre
  have hown : s.vm.findClass RX10 = some m.cls := hown_of B.named rfl
  have hlocks := B.notSynchronized
  subst hsz
  have hD := hD0.self (sz := s.heap.size)
  generalize hAe : va_A [(o0, .inr (8, [.int x_th, .ref mwo, .ref mim, .ref mhi, .ref mlu, .ref mtp, .int x_td, .ref mfv, .int x_sz, .int x_at, .int x_fr, .int x_to, .int x_va, .int x_fk, .int x_fp, .ref mfr, .ref mwt, .int x_wt, .int x_op, .int x_jo, .ref mfg, .ref mpl, .long x_dr, .ref mtm, .ref mfa, .ref mqu, .ref mmo, .ref mwy, .ref mwn, .ref mma, .ref mwi, .ref mnu, .ref mmv])), (mwo, .inl (c_wo, 1875, .inl w_wo)), (mfg, .inl (c_fg, 12, .inl w_fg))] s.heap.size = A at hD ⊢
  have hA : ∀ q : Nat, s.heap.size ≤ q → A q := fun q h => by rw [← hAe]; exact Or.inr h
  have hS : va_S A s.heap s.heap [] := va_S.rf
  have hP : va_P (dC, dI) vwCl [(o0, .inr (8, [.int x_th, .ref mwo, .ref mim, .ref mhi, .ref mlu, .ref mtp, .int x_td, .ref mfv, .int x_sz, .int x_at, .int x_fr, .int x_to, .int x_va, .int x_fk, .int x_fp, .ref mfr, .ref mwt, .int x_wt, .int x_op, .int x_jo, .ref mfg, .ref mpl, .long x_dr, .ref mtm, .ref mfa, .ref mqu, .ref mmo, .ref mwy, .ref mwn, .ref mma, .ref mwi, .ref mnu, .ref mmv])), (mwo, .inl (c_wo, 1875, .inl w_wo)), (mfg, .inl (c_fg, 12, .inl w_fg))] s.heap := hP
  have hl := lv_entry ([.ref o0, .int a1]) (n := 4) (Nat.le_of_ble_eq_true rfl)
  rw [lg_entry_eq]
  generalize (lg_sl ([.ref o0, .int a1]) ++ List.replicate (4 - (lg_sl ([.ref o0, .int a1])).length) Slot.unset).toArray = ls at hl ⊢
  have hl : lv_has ls 4 [(0, .ref o0), (1, .int a1)] := hl
  refine lv_aload_n hx hb dX10_about_0 rfl (lv_at hl 0 rfl) ?_
  refine lv_iload_n hx hb dX10_about_1 rfl (lv_at hl 1 rfl) ?_
  obtain ⟨z_116, e_z_116⟩ : ∃ y : Int64, y = a1.toInt64 := ⟨_, rfl⟩
  refine lv_i2l (v := z_116) hx hb dX10_about_2 e_z_116.symm ?_
  obtain ⟨q_z_116, b_z_116⟩ := ti_i2l e_z_116 (ti_rng a1)
  refine vp_callSi (W.runV (As := [.long z_116]) (rest := []) ⟨hx, hb, hml, hown, hts⟩ (kX10_isTicket l dC dI o0 x_th mwo mim mhi mlu mtp x_td mfv x_sz x_at x_fr x_to x_va x_fk x_fp mfr mwt x_wt x_op x_jo mfg mpl x_dr mtm mfa mqu mmo mwy mwn mma mwi mnu mmv c_wo w_wo ln bs tk lw li z_116 b_ln b_bs b_tk b_lw (hw0) (hw1) (hw2) (hw3) (hw4) (hwz)) (cwV 1 hts gX10_about__X10_isTicket_V93 rfl rfl rfl hd_yX10_isTicket ⟨lel 2 2 rfl, lel 47 47 rfl⟩) ⟨pw_fb, rcv_X10 hK hP (q0 := 0) rfl, (pw_use hP hK hN [0, 1] rfl [0] rfl)⟩ rfl rfl hl.1 rfl (lv_room (Nat.le_of_ble_eq_true rfl)) dX10_about_3 ⟨lel 0 0 rfl, lel 0 0 rfl⟩) (fun r_117 h_r_117 => ?_)
  obtain ⟨b_r_117, nz_r_117⟩ := h_r_117
  have b_r_117 : (0 : Int) ≤ r_117.toInt ∧ r_117.toInt ≤ 1 := b_r_117
  refine lv_if_ne (tgt := 12) hx hb dX10_about_6 (by decide) (fun c_118 => ?_) (fun c_118 => ?_)
  ·
    have n_c_118 : (r_117.toInt : Int) ≠ 0 := c_ne rfl (by decide) c_118
    have b_r_117 : (1 : Int) ≤ r_117.toInt ∧ r_117.toInt ≤ 1 := r_ne1 b_r_117 (by decide : (0 : Int) ≤ (0 : Int32).toInt ∧ (0 : Int32).toInt ≤ 0) n_c_118 (by decide)
    obtain ⟨b_z_116, g_119⟩ := nz_r_117 c_118
    have b_a1 : (0 : Int) ≤ a1.toInt ∧ a1.toInt ≤ 19999 := by
      have q0 := b_z_116; have q1 := q_z_116; have q2 := (ti_rng a1); omega
    refine lv_aload_n hx hb dX10_about_12 rfl (lv_at hl 0 rfl) ?_
    refine lv_iload_n hx hb dX10_about_13 rfl (lv_at hl 1 rfl) ?_
    have hFc := va_free (wc := [(o0, .inr (8, [.int x_th, .ref mwo, .ref mim, .ref mhi, .ref mlu, .ref mtp, .int x_td, .ref mfv, .int x_sz, .int x_at, .int x_fr, .int x_to, .int x_va, .int x_fk, .int x_fp, .ref mfr, .ref mwt, .int x_wt, .int x_op, .int x_jo, .ref mfg, .ref mpl, .long x_dr, .ref mtm, .ref mfa, .ref mqu, .ref mmo, .ref mwy, .ref mwn, .ref mma, .ref mwi, .ref mnu, .ref mmv])), (mwo, .inl (c_wo, 1875, .inl w_wo)), (mfg, .inl (c_fg, 12, .inl w_fg))]) hD hS hA [0, 1, 2] rfl
    refine va_callv (va_runV (As := [.int a1]) (rest := []) ⟨hx, hb, hml, hown, hts⟩ (kX10_fillFigures l dC dI o0 x_th mwo mim mhi mlu mtp x_td mfv x_sz x_at x_fr x_to x_va x_fk x_fp mfr mwt x_wt x_op x_jo mfg mpl x_dr mtm mfa mqu mmo mwy mwn mma mwi mnu mmv c_wo c_fg w_wo w_fg ln bs tk lw li a1 (s.heap.size) b_ln b_bs b_tk b_lw b_a1 ha_mfg (hw0) (hw1) (hw2) (hw3) (hw4) (hwz)) (cwV 1 hts gX10_about__X10_fillFigures_V302 rfl rfl rfl hd_yX10_fillFigures ⟨lel 1 2 rfl, lel 23 47 rfl⟩) ⟨hw_fb, rcv_X10 hK hP (q0 := 0) rfl, (hw_use hP hD hK hN [0, 1, 2] rfl (by decide) rfl [0, 1] rfl)⟩ rfl rfl hl.1 rfl (lv_room (Nat.le_of_ble_eq_true rfl)) dX10_about_14 ⟨lel 0 0 rfl, lel 0 0 rfl⟩) hS (fun q _ h => hFc q h) hFc (fun u_121 t H1 locs ht hvm hw_r_120 hB hz1 hk1 hS => ?_)
    obtain ⟨o0_122, ha_123, hP1, hK1, hD1⟩ := hB
    rw [ht] at hP1
    have hK1 := va_K.moved hvm.symm hK1
    obtain ⟨hP, hD⟩ := va_join (wr := []) (w1 := [(o0, .inr (8, [.int x_th, .ref mwo, .ref mim, .ref mhi, .ref mlu, .ref mtp, .int x_td, .ref mfv, .int x_sz, .int x_at, .int x_fr, .int x_to, .int x_va, .int x_fk, .int x_fp, .ref mfr, .ref mwt, .int x_wt, .int x_op, .int x_jo, .ref mfg, .ref mpl, .long x_dr, .ref mtm, .ref mfa, .ref mqu, .ref mmo, .ref mwy, .ref mwn, .ref mma, .ref mwi, .ref mnu, .ref mmv])), (mwo, .inl (c_wo, 1875, .inl w_wo)), (mfg, .inl (c_fg, 12, .inl o0_122))]) hP hD [0, 1, 2] [] rfl rfl (by decide) (by decide) hk1 hFc hP1 hD1
    have hK := (hK.sub (tys' := []) [] rfl).app hK1
    generalize H1 = H at hP hS ⊢
    have hP : va_P (dC, dI) vwCl [(o0, .inr (8, [.int x_th, .ref mwo, .ref mim, .ref mhi, .ref mlu, .ref mtp, .int x_td, .ref mfv, .int x_sz, .int x_at, .int x_fr, .int x_to, .int x_va, .int x_fk, .int x_fp, .ref mfr, .ref mwt, .int x_wt, .int x_op, .int x_jo, .ref mfg, .ref mpl, .long x_dr, .ref mtm, .ref mfa, .ref mqu, .ref mmo, .ref mwy, .ref mwn, .ref mma, .ref mwi, .ref mnu, .ref mmv])), (mwo, .inl (c_wo, 1875, .inl w_wo)), (mfg, .inl (c_fg, 12, .inl o0_122))] H := hP
    have hD : va_D A [(o0, .inr (8, [.int x_th, .ref mwo, .ref mim, .ref mhi, .ref mlu, .ref mtp, .int x_td, .ref mfv, .int x_sz, .int x_at, .int x_fr, .int x_to, .int x_va, .int x_fk, .int x_fp, .ref mfr, .ref mwt, .int x_wt, .int x_op, .int x_jo, .ref mfg, .ref mpl, .long x_dr, .ref mtm, .ref mfa, .ref mqu, .ref mmo, .ref mwy, .ref mwn, .ref mma, .ref mwi, .ref mnu, .ref mmv])), (mwo, .inl (c_wo, 1875, .inl w_wo)), (mfg, .inl (c_fg, 12, .inl o0_122))] := hD
    have hK : va_K (dC, dI) vwCl [(c_wo, .int), (c_fg, .int)] s := hK
    refine lv_iconst (v := 0) hx hb dX10_about_17 (by decide) ?_
    refine lv_istore_n (lv' := [(2, .int 0), (0, .ref o0), (1, .int a1)]) hx hb dX10_about_18 rfl hl (by decide) rfl (fun ls hl => ?_)
    refine lv_iconst (v := 0) hx hb dX10_about_19 (by decide) ?_
    refine lv_istore_n (lv' := [(3, .int 0), (2, .int 0), (0, .ref o0), (1, .int a1)]) hx hb dX10_about_20 rfl hl (by decide) rfl (fun ls hl => ?_)
    refine loopW (σ := Int32 × Int32) (fun v => (12 - v.1.toInt).toNat) (fun v H locs ls => ((0 : Int) ≤ v.1.toInt ∧ v.1.toInt ≤ 12) ∧ va_P (dC, dI) vwCl [(o0, .inr (8, [.int x_th, .ref mwo, .ref mim, .ref mhi, .ref mlu, .ref mtp, .int x_td, .ref mfv, .int x_sz, .int x_at, .int x_fr, .int x_to, .int x_va, .int x_fk, .int x_fp, .ref mfr, .ref mwt, .int x_wt, .int x_op, .int x_jo, .ref mfg, .ref mpl, .long x_dr, .ref mtm, .ref mfa, .ref mqu, .ref mmo, .ref mwy, .ref mwn, .ref mma, .ref mwi, .ref mnu, .ref mmv])), (mwo, .inl (c_wo, 1875, .inl w_wo)), (mfg, .inl (c_fg, 12, .inl o0_122))] H ∧ va_D A [(o0, .inr (8, [.int x_th, .ref mwo, .ref mim, .ref mhi, .ref mlu, .ref mtp, .int x_td, .ref mfv, .int x_sz, .int x_at, .int x_fr, .int x_to, .int x_va, .int x_fk, .int x_fp, .ref mfr, .ref mwt, .int x_wt, .int x_op, .int x_jo, .ref mfg, .ref mpl, .long x_dr, .ref mtm, .ref mfa, .ref mqu, .ref mmo, .ref mwy, .ref mwn, .ref mma, .ref mwi, .ref mnu, .ref mmv])), (mwo, .inl (c_wo, 1875, .inl w_wo)), (mfg, .inl (c_fg, 12, .inl o0_122))] ∧ va_S A s.heap H locs ∧ lv_has ls 4 [(3, .int v.1), (2, .int v.2), (0, .ref o0), (1, .int a1)]) (fun v H locs ls hI ih_21_209 => ?_) ((0 : Int32), (0 : Int32)) ⟨(show (0 : Int) ≤ (0 : Int32).toInt ∧ (0 : Int32).toInt ≤ 12 from (rg_w (by decide : (0 : Int) ≤ (0 : Int32).toInt ∧ (0 : Int32).toInt ≤ 0) (by decide) (by decide))), hP, hD, hS, lv_sub hl [0, 1, 2, 3] rfl⟩
    obtain ⟨y_145, y_146⟩ := v
    obtain ⟨b_y_145, hP, hD, hS, hl⟩ := hI
    have b_y_145 : (0 : Int) ≤ y_145.toInt ∧ y_145.toInt ≤ 12 := b_y_145
    have hP : va_P (dC, dI) vwCl [(o0, .inr (8, [.int x_th, .ref mwo, .ref mim, .ref mhi, .ref mlu, .ref mtp, .int x_td, .ref mfv, .int x_sz, .int x_at, .int x_fr, .int x_to, .int x_va, .int x_fk, .int x_fp, .ref mfr, .ref mwt, .int x_wt, .int x_op, .int x_jo, .ref mfg, .ref mpl, .long x_dr, .ref mtm, .ref mfa, .ref mqu, .ref mmo, .ref mwy, .ref mwn, .ref mma, .ref mwi, .ref mnu, .ref mmv])), (mwo, .inl (c_wo, 1875, .inl w_wo)), (mfg, .inl (c_fg, 12, .inl o0_122))] H := hP
    have hD : va_D A [(o0, .inr (8, [.int x_th, .ref mwo, .ref mim, .ref mhi, .ref mlu, .ref mtp, .int x_td, .ref mfv, .int x_sz, .int x_at, .int x_fr, .int x_to, .int x_va, .int x_fk, .int x_fp, .ref mfr, .ref mwt, .int x_wt, .int x_op, .int x_jo, .ref mfg, .ref mpl, .long x_dr, .ref mtm, .ref mfa, .ref mqu, .ref mmo, .ref mwy, .ref mwn, .ref mma, .ref mwi, .ref mnu, .ref mmv])), (mwo, .inl (c_wo, 1875, .inl w_wo)), (mfg, .inl (c_fg, 12, .inl o0_122))] := hD
    have hl : lv_has ls 4 [(3, .int y_145), (2, .int y_146), (0, .ref o0), (1, .int a1)] := hl
    refine lv_iload_n hx hb dX10_about_21 rfl (lv_at hl 0 rfl) ?_
    refine lv_aload_n hx hb dX10_about_22 rfl (lv_at hl 2 rfl) ?_
    refine va_get (D := (dC, dI)) (ci := 8) (v := .ref mwo) (C := RX10) (T := TX10) (N := 33) hx hb hts iX10_about_X10 hown hK hP 0 rfl rfl 1 (by decide) (hts (.fieldLink RX10 9 "LuckyTicketModel" "world" "[I") (List.mem_of_getElem? (i := 8) rfl)) (fun _ h9 => h9) rfl dX10_about_23 ?_
    refine lv_iconst (v := 0) hx hb dX10_about_26 (by decide) ?_
    refine va_iald hx hb hK hP 1 0 rfl rfl (vp_in_b (by decide : (0 : Int) ≤ (0 : Int32).toInt ∧ (0 : Int32).toInt ≤ 0) (by decide) (by decide)) dX10_about_27 ?_
    refine lv_topi (fun z_210 e_z_210 => ?_)
    obtain rfl : ln = z_210 := (e_z_210.trans hw0).symm
    refine lv_icmp_ge (tgt := 83) hx hb dX10_about_28 (by decide) (fun c_211 => ?_) (fun c_211 => ?_)
    ·
      have n_c_211 : (ln.toInt : Int) ≤ y_145.toInt := c_ge rfl rfl c_211
      refine lv_iload_n hx hb dX10_about_83 rfl (lv_at hl 1 rfl) ?_
      have hP9 := hP.sub (ws' := [(o0, .inr (8, [.int x_th, .ref mwo, .ref mim, .ref mhi, .ref mlu, .ref mtp, .int x_td, .ref mfv, .int x_sz, .int x_at, .int x_fr, .int x_to, .int x_va, .int x_fk, .int x_fp, .ref mfr, .ref mwt, .int x_wt, .int x_op, .int x_jo, .ref mfg, .ref mpl, .long x_dr, .ref mtm, .ref mfa, .ref mqu, .ref mmo, .ref mwy, .ref mwn, .ref mma, .ref mwi, .ref mnu, .ref mmv])), (mwo, .inl (c_wo, 1875, .inl w_wo)), (mfg, .inl (c_fg, 12, .inl o0_122))]) [0, 1, 2] rfl
      have hD9 := hD.sub (ws' := [(o0, .inr (8, [.int x_th, .ref mwo, .ref mim, .ref mhi, .ref mlu, .ref mtp, .int x_td, .ref mfv, .int x_sz, .int x_at, .int x_fr, .int x_to, .int x_va, .int x_fk, .int x_fp, .ref mfr, .ref mwt, .int x_wt, .int x_op, .int x_jo, .ref mfg, .ref mpl, .long x_dr, .ref mtm, .ref mfa, .ref mqu, .ref mmo, .ref mwy, .ref mwn, .ref mma, .ref mwi, .ref mnu, .ref mmv])), (mwo, .inl (c_wo, 1875, .inl w_wo)), (mfg, .inl (c_fg, 12, .inl o0_122))]) [0, 1, 2] (by decide) rfl
      have hK9 := hK.sub (tys' := [(c_wo, .int), (c_fg, .int)]) [0, 1] rfl
      exact W.iret (v := y_146) hx hb hr (fun t ht hW => ⟨⟨y_146, (), rfl, trivial, o0_122, ha_123, by rw [ht]; exact hP9, va_K.moved hW.alike hK9, hD9⟩, hS.F ht⟩) hS.2.2 dX10_about_84
    ·
      have n_c_211 : (y_145.toInt : Int) < ln.toInt := c_nge rfl rfl c_211
      have b_y_145 : (0 : Int) ≤ y_145.toInt ∧ y_145.toInt ≤ 11 := r_lt1 b_y_145 b_ln n_c_211 (by decide)
      have b_ln : (1 : Int) ≤ ln.toInt ∧ ln.toInt ≤ 12 := r_lt2 b_y_145 b_ln n_c_211 (by decide)
      refine lv_aload_n hx hb dX10_about_31 rfl (lv_at hl 2 rfl) ?_
      refine va_get (D := (dC, dI)) (ci := 8) (v := .ref mwo) (C := RX10) (T := TX10) (N := 33) hx hb hts iX10_about_X10 hown hK hP 0 rfl rfl 1 (by decide) (hts (.fieldLink RX10 9 "LuckyTicketModel" "world" "[I") (List.mem_of_getElem? (i := 8) rfl)) (fun _ h9 => h9) rfl dX10_about_32 ?_
      refine lv_iconst (v := 1) hx hb dX10_about_35 (by decide) ?_
      refine va_iald hx hb hK hP 1 0 rfl rfl (vp_in_b (by decide : (1 : Int) ≤ (1 : Int32).toInt ∧ (1 : Int32).toInt ≤ 1) (by decide) (by decide)) dX10_about_36 ?_
      refine lv_topi (fun z_212 e_z_212 => ?_)
      obtain rfl : bs = z_212 := (e_z_212.trans hw1).symm
      refine lv_iload_n hx hb dX10_about_37 rfl (lv_at hl 1 rfl) ?_
      refine lv_imul hx hb dX10_about_38 ?_
      refine lv_topi (fun z_213 e_z_213 => ?_)
      refine lv_aload_n hx hb dX10_about_39 rfl (lv_at hl 2 rfl) ?_
      refine vp_callSi (W.runV (As := []) (rest := [.int z_213]) ⟨hx, hb, hml, hown, hts⟩ (kX10_lastHalf l dC dI o0 x_th mwo mim mhi mlu mtp x_td mfv x_sz x_at x_fr x_to x_va x_fk x_fp mfr mwt x_wt x_op x_jo mfg mpl x_dr mtm mfa mqu mmo mwy mwn mma mwi mnu mmv c_wo w_wo ln bs tk lw li (rg_w b_ln (by decide) (by decide)) b_bs b_tk b_lw (hw0) (hw1) (hw2) (hw3) (hw4) (hwz)) (cwV 0 hts gX10_about__X10_lastHalf_V283 rfl rfl rfl hd_yX10_lastHalf ⟨lel 2 2 rfl, lel 40 47 rfl⟩) ⟨pw_fb, rcv_X10 hK hP (q0 := 0) rfl, (pw_use hP hK hN [0, 1] rfl [0] rfl)⟩ rfl rfl hl.1 rfl (lv_room (Nat.le_of_ble_eq_true rfl)) dX10_about_40 ⟨lel 0 0 rfl, lel 0 0 rfl⟩) (fun r_214 h_r_214 => ?_)
      refine lv_iload_n hx hb dX10_about_43 rfl (lv_at hl 0 rfl) ?_
      refine lv_ishr hx hb dX10_about_44 ?_
      refine lv_topi (fun z_215 e_z_215 => ?_)
      refine lv_iconst (v := 1) hx hb dX10_about_45 (by decide) ?_
      refine lv_iand hx hb dX10_about_46 ?_
      refine lv_topi (fun z_216 e_z_216 => ?_)
      have b_z_216 : (0 : Int) ≤ z_216.toInt ∧ z_216.toInt ≤ 1 := ti_and (k := 1) e_z_216 (by decide) (by decide) (by decide)
      refine lv_iconst (v := 1) hx hb dX10_about_47 (by decide) ?_
      refine cutW (σ := Int32) (pc2 := 75) (st2 := fun v => [.int v, .int z_213]) (cells2 := 0) (slots2 := 0) (fun v H locs ls => ((-16 : Int) ≤ v.toInt ∧ v.toInt ≤ 15) ∧ va_P (dC, dI) vwCl [(o0, .inr (8, [.int x_th, .ref mwo, .ref mim, .ref mhi, .ref mlu, .ref mtp, .int x_td, .ref mfv, .int x_sz, .int x_at, .int x_fr, .int x_to, .int x_va, .int x_fk, .int x_fp, .ref mfr, .ref mwt, .int x_wt, .int x_op, .int x_jo, .ref mfg, .ref mpl, .long x_dr, .ref mtm, .ref mfa, .ref mqu, .ref mmo, .ref mwy, .ref mwn, .ref mma, .ref mwi, .ref mnu, .ref mmv])), (mwo, .inl (c_wo, 1875, .inl w_wo)), (mfg, .inl (c_fg, 12, .inl o0_122))] H ∧ va_D A [(o0, .inr (8, [.int x_th, .ref mwo, .ref mim, .ref mhi, .ref mlu, .ref mtp, .int x_td, .ref mfv, .int x_sz, .int x_at, .int x_fr, .int x_to, .int x_va, .int x_fk, .int x_fp, .ref mfr, .ref mwt, .int x_wt, .int x_op, .int x_jo, .ref mfg, .ref mpl, .long x_dr, .ref mtm, .ref mfa, .ref mqu, .ref mmo, .ref mwy, .ref mwn, .ref mma, .ref mwi, .ref mnu, .ref mmv])), (mwo, .inl (c_wo, 1875, .inl w_wo)), (mfg, .inl (c_fg, 12, .inl o0_122))] ∧ va_S A s.heap H locs ∧ lv_has ls 4 [(3, .int y_145), (2, .int y_146), (0, .ref o0), (1, .int a1)]) (fun v H locs ls hI => ?_) (fun hj_75_223 => ?_)
      ·
        obtain ⟨y_223, rfl⟩ : ∃ z, z = v := ⟨_, rfl⟩
        obtain ⟨b_y_223, hP, hD, hS, hl⟩ := hI
        have b_y_223 : (-16 : Int) ≤ y_223.toInt ∧ y_223.toInt ≤ 15 := b_y_223
        have hP : va_P (dC, dI) vwCl [(o0, .inr (8, [.int x_th, .ref mwo, .ref mim, .ref mhi, .ref mlu, .ref mtp, .int x_td, .ref mfv, .int x_sz, .int x_at, .int x_fr, .int x_to, .int x_va, .int x_fk, .int x_fp, .ref mfr, .ref mwt, .int x_wt, .int x_op, .int x_jo, .ref mfg, .ref mpl, .long x_dr, .ref mtm, .ref mfa, .ref mqu, .ref mmo, .ref mwy, .ref mwn, .ref mma, .ref mwi, .ref mnu, .ref mmv])), (mwo, .inl (c_wo, 1875, .inl w_wo)), (mfg, .inl (c_fg, 12, .inl o0_122))] H := hP
        have hD : va_D A [(o0, .inr (8, [.int x_th, .ref mwo, .ref mim, .ref mhi, .ref mlu, .ref mtp, .int x_td, .ref mfv, .int x_sz, .int x_at, .int x_fr, .int x_to, .int x_va, .int x_fk, .int x_fp, .ref mfr, .ref mwt, .int x_wt, .int x_op, .int x_jo, .ref mfg, .ref mpl, .long x_dr, .ref mtm, .ref mfa, .ref mqu, .ref mmo, .ref mwy, .ref mwn, .ref mma, .ref mwi, .ref mnu, .ref mmv])), (mwo, .inl (c_wo, 1875, .inl w_wo)), (mfg, .inl (c_fg, 12, .inl o0_122))] := hD
        have hl : lv_has ls 4 [(3, .int y_145), (2, .int y_146), (0, .ref o0), (1, .int a1)] := hl
        refine lv_iadd hx hb dX10_about_75 ?_
        refine lv_topi (fun z_224 e_z_224 => ?_)
        refine lv_istore_n (lv' := [(2, .int z_224), (3, .int y_145), (0, .ref o0), (1, .int a1)]) hx hb dX10_about_76 rfl hl (by decide) rfl (fun ls hl => ?_)
        obtain ⟨z_225, e_z_225⟩ : ∃ y : Int32, y = y_145 + 1 := ⟨_, rfl⟩
        refine lv_iinc (v := z_225) (lv' := [(3, .int z_225), (2, .int z_224), (0, .ref o0), (1, .int a1)]) hx hb dX10_about_77 hl (k := 1) rfl (by rw [e_z_225]; rfl) (by decide) rfl (fun ls hl => ?_)
        obtain ⟨q_z_225, b_z_225⟩ := ti_add (lo := 1) (hi := 12) e_z_225 rfl (by decide : (1 : Int32).toInt = 1) b_y_145 (by decide : (1 : Int) ≤ (1 : Int32).toInt ∧ (1 : Int32).toInt ≤ 1) (by decide)
        refine lv_goto (tgt := 21) hx hb dX10_about_80 (by decide) ?_
        exact ih_21_209 (z_225, z_224) _ _ _ ⟨(show (0 : Int) ≤ z_225.toInt ∧ z_225.toInt ≤ 12 from (rg_w b_z_225 (by decide) (by decide))), hP, hD, hS, lv_sub hl [0, 1, 2, 3] rfl⟩ (show (12 - z_225.toInt).toNat < (12 - y_145.toInt).toNat by omega)
      ·
        refine lv_icmp_ne (tgt := 69) hx hb dX10_about_48 (by decide) (fun c_217 => ?_) (fun c_217 => ?_)
        ·
          have n_c_217 : (z_216.toInt : Int) ≠ 1 := c_ne rfl (by decide) c_217
          have b_z_216 : (0 : Int) ≤ z_216.toInt ∧ z_216.toInt ≤ 0 := r_ne2 b_z_216 (by decide : (1 : Int) ≤ (1 : Int32).toInt ∧ (1 : Int32).toInt ≤ 1) n_c_217 (by decide)
          refine lv_aload_n hx hb dX10_about_69 rfl (lv_at hl 2 rfl) ?_
          refine va_get (D := (dC, dI)) (ci := 8) (v := .ref mfg) (C := RX10) (T := TX10) (N := 33) hx hb hts iX10_about_X10 hown hK hP 0 rfl rfl 20 (by decide) (hts (.fieldLink RX10 40 "LuckyTicketModel" "figures" "[I") (List.mem_of_getElem? (i := 12) rfl)) (fun _ h9 => h9) rfl dX10_about_70 ?_
          refine lv_iload_n hx hb dX10_about_73 rfl (lv_at hl 0 rfl) ?_
          refine va_iald hx hb hK hP 2 1 rfl rfl (vp_in_b b_y_145 (by decide) (by decide)) dX10_about_74 ?_
          refine lv_topi (fun z_226 e_z_226 => ?_)
          have b_z_226 : (0 : Int) ≤ z_226.toInt ∧ z_226.toInt ≤ 15 := rg_at ha_123 (vp_in_b b_y_145 (by decide) (by decide)) e_z_226
          exact hj_75_223 z_226 _ _ _ ⟨(show (-16 : Int) ≤ z_226.toInt ∧ z_226.toInt ≤ 15 from (rg_w b_z_226 (by decide) (by decide))), hP, hD, hS, lv_sub hl [0, 1, 2, 3] rfl⟩
        ·
          have n_c_217 : (z_216.toInt : Int) = 1 := c_eq rfl (by decide) c_217
          have b_z_216 : (1 : Int) ≤ z_216.toInt ∧ z_216.toInt ≤ 1 := r_eq1 b_z_216 (by decide : (1 : Int) ≤ (1 : Int32).toInt ∧ (1 : Int32).toInt ≤ 1) n_c_217 (by decide)
          refine lv_aload_n hx hb dX10_about_51 rfl (lv_at hl 2 rfl) ?_
          refine va_get (D := (dC, dI)) (ci := 8) (v := .ref mwo) (C := RX10) (T := TX10) (N := 33) hx hb hts iX10_about_X10 hown hK hP 0 rfl rfl 1 (by decide) (hts (.fieldLink RX10 9 "LuckyTicketModel" "world" "[I") (List.mem_of_getElem? (i := 8) rfl)) (fun _ h9 => h9) rfl dX10_about_52 ?_
          refine lv_iconst (v := 1) hx hb dX10_about_55 (by decide) ?_
          refine va_iald hx hb hK hP 1 0 rfl rfl (vp_in_b (by decide : (1 : Int) ≤ (1 : Int32).toInt ∧ (1 : Int32).toInt ≤ 1) (by decide) (by decide)) dX10_about_56 ?_
          refine lv_topi (fun z_227 e_z_227 => ?_)
          obtain rfl : bs = z_227 := (e_z_227.trans hw1).symm
          refine lv_iconst (v := 1) hx hb dX10_about_57 (by decide) ?_
          refine lv_isub hx hb dX10_about_58 ?_
          refine lv_topi (fun z_228 e_z_228 => ?_)
          obtain ⟨q_z_228, b_z_228⟩ := ti_sub (lo := -1) (hi := 15) e_z_228 rfl (by decide : (1 : Int32).toInt = 1) b_bs (by decide : (1 : Int) ≤ (1 : Int32).toInt ∧ (1 : Int32).toInt ≤ 1) (by decide)
          refine lv_aload_n hx hb dX10_about_59 rfl (lv_at hl 2 rfl) ?_
          refine va_get (D := (dC, dI)) (ci := 8) (v := .ref mfg) (C := RX10) (T := TX10) (N := 33) hx hb hts iX10_about_X10 hown hK hP 0 rfl rfl 20 (by decide) (hts (.fieldLink RX10 40 "LuckyTicketModel" "figures" "[I") (List.mem_of_getElem? (i := 12) rfl)) (fun _ h9 => h9) rfl dX10_about_60 ?_
          refine lv_iload_n hx hb dX10_about_63 rfl (lv_at hl 0 rfl) ?_
          refine va_iald hx hb hK hP 2 1 rfl rfl (vp_in_b b_y_145 (by decide) (by decide)) dX10_about_64 ?_
          refine lv_topi (fun z_229 e_z_229 => ?_)
          have b_z_229 : (0 : Int) ≤ z_229.toInt ∧ z_229.toInt ≤ 15 := rg_at ha_123 (vp_in_b b_y_145 (by decide) (by decide)) e_z_229
          refine lv_isub hx hb dX10_about_65 ?_
          refine lv_topi (fun z_230 e_z_230 => ?_)
          obtain ⟨q_z_230, b_z_230⟩ := ti_sub (lo := -16) (hi := 15) e_z_230 rfl rfl b_z_228 b_z_229 (by decide)
          refine lv_goto (tgt := 75) hx hb dX10_about_66 (by decide) ?_
          exact hj_75_223 z_230 _ _ _ ⟨(show (-16 : Int) ≤ z_230.toInt ∧ z_230.toInt ≤ 15 from b_z_230), hP, hD, hS, lv_sub hl [0, 1, 2, 3] rfl⟩
  ·
    have n_c_118 : (r_117.toInt : Int) = 0 := c_eq rfl (by decide) c_118
    have b_r_117 : (0 : Int) ≤ r_117.toInt ∧ r_117.toInt ≤ 0 := r_eq1 b_r_117 (by decide : (0 : Int) ≤ (0 : Int32).toInt ∧ (0 : Int32).toInt ≤ 0) n_c_118 (by decide)
    refine lv_bipush (v := (-2)) hx hb dX10_about_9 (by decide) ?_
    have hP9 := hP.sub (ws' := [(o0, .inr (8, [.int x_th, .ref mwo, .ref mim, .ref mhi, .ref mlu, .ref mtp, .int x_td, .ref mfv, .int x_sz, .int x_at, .int x_fr, .int x_to, .int x_va, .int x_fk, .int x_fp, .ref mfr, .ref mwt, .int x_wt, .int x_op, .int x_jo, .ref mfg, .ref mpl, .long x_dr, .ref mtm, .ref mfa, .ref mqu, .ref mmo, .ref mwy, .ref mwn, .ref mma, .ref mwi, .ref mnu, .ref mmv])), (mwo, .inl (c_wo, 1875, .inl w_wo)), (mfg, .inl (c_fg, 12, .inl w_fg))]) [0, 1, 2] rfl
    have hD9 := hD.sub (ws' := [(o0, .inr (8, [.int x_th, .ref mwo, .ref mim, .ref mhi, .ref mlu, .ref mtp, .int x_td, .ref mfv, .int x_sz, .int x_at, .int x_fr, .int x_to, .int x_va, .int x_fk, .int x_fp, .ref mfr, .ref mwt, .int x_wt, .int x_op, .int x_jo, .ref mfg, .ref mpl, .long x_dr, .ref mtm, .ref mfa, .ref mqu, .ref mmo, .ref mwy, .ref mwn, .ref mma, .ref mwi, .ref mnu, .ref mmv])), (mwo, .inl (c_wo, 1875, .inl w_wo)), (mfg, .inl (c_fg, 12, .inl w_fg))]) [0, 1, 2] (by decide) rfl
    have hK9 := hK.sub (tys' := [(c_wo, .int), (c_fg, .int)]) [0, 1] rfl
    exact W.iret (v := (-2)) hx hb hr (fun t ht hW => ⟨⟨(-2), (), rfl, trivial, w_fg, ha_mfg, by rw [ht]; exact hP9, va_K.moved hW.alike hK9, hD9⟩, hS.F ht⟩) hS.2.2 dX10_about_11
theorem dX10_isTold_0 : decode cX10_isTold 0 = .ok (.aload_n 0, 1) := by decide +kernel
theorem dX10_isTold_1 : decode cX10_isTold 1 = .ok (.getfield 71, 3) := by decide +kernel
theorem dX10_isTold_4 : decode cX10_isTold 4 = .ok (.bipush 60, 2) := by decide +kernel
theorem dX10_isTold_6 : decode cX10_isTold 6 = .ok (.iload_n 1, 1) := by decide +kernel
theorem dX10_isTold_7 : decode cX10_isTold 7 = .ok (.imul, 1) := by decide +kernel
theorem dX10_isTold_8 : decode cX10_isTold 8 = .ok (.iload_n 2, 1) := by decide +kernel
theorem dX10_isTold_9 : decode cX10_isTold 9 = .ok (.iadd, 1) := by decide +kernel
theorem dX10_isTold_10 : decode cX10_isTold 10 = .ok (.laload, 1) := by decide +kernel
theorem dX10_isTold_11 : decode cX10_isTold 11 = .ok (.lconst 0, 1) := by decide +kernel
theorem dX10_isTold_12 : decode cX10_isTold 12 = .ok (.aload_n 0, 1) := by decide +kernel
theorem dX10_isTold_13 : decode cX10_isTold 13 = .ok (.getfield 9, 3) := by decide +kernel
theorem dX10_isTold_16 : decode cX10_isTold 16 = .ok (.iconst 1, 1) := by decide +kernel
theorem dX10_isTold_17 : decode cX10_isTold 17 = .ok (.iaload, 1) := by decide +kernel
theorem dX10_isTold_18 : decode cX10_isTold 18 = .ok (.iconst 1, 1) := by decide +kernel
theorem dX10_isTold_19 : decode cX10_isTold 19 = .ok (.isub, 1) := by decide +kernel
theorem dX10_isTold_20 : decode cX10_isTold 20 = .ok (.i2l, 1) := by decide +kernel
theorem dX10_isTold_21 : decode cX10_isTold 21 = .ok (.invokestatic 82, 3) := by decide +kernel
theorem dX10_isTold_24 : decode cX10_isTold 24 = .ok (.ireturn, 1) := by decide +kernel
theorem hd_yX10_isTold : yX10_isTold.cls = RX10 ∧ yX10_isTold.cls ≠ "java/lang/invoke/MethodHandle" ∧ yX10_isTold.cls ≠ "java/lang/invoke/VarHandle" ∧ (parseMethodDescriptor yX10_isTold.desc).map (fun d => d.parameters.length) = some 2 := by decide +kernel
def uX10_isTold : List Cond := List.cons (.code yX10_isTold cX10_isTold 3 (some .boolean)) (HAppend.hAppend ([.fieldLink RX10 71 "LuckyTicketModel" "numbers" "[J", .fieldLink RX10 9 "LuckyTicketModel" "world" "[I", .methodLink RX10 82 yX10_in, .static yX10_in, .initialized RX10] : List Cond) (HAppend.hAppend uX10_in wsX100))
theorem iX10_isTold_X10 : ∀ w ∈ wsX100, w ∈ uX10_isTold := fun _ h => (List.mem_cons_of_mem _ (List.mem_append_right _ (List.mem_append_right _ h)))
theorem guX10_isTold : GU uX10_isTold := gu_cons (gu_app (by decide +kernel) (gu_ap guX10_in gws_X10))
theorem gX10_isTold__X10_in_S82 : GoodIn uX10_isTold (va_wsS RX10 82 yX10_in uX10_in) := gin_S (List.mem_of_getElem? (i := 3) rfl) (List.mem_of_getElem? (i := 4) rfl) (List.mem_of_getElem? (i := 5) rfl) (fun _ h => (List.mem_cons_of_mem _ (List.mem_append_right _ (List.mem_append_left _ h)))) guX10_in
set_option maxHeartbeats 4000000 in
set_option maxRecDepth 100000 in
theorem kX10_isTold (l : Launch) (dC : Nat → ClassId) (dI : Nat → Nat → Nat) (o0 : Nat) (x_th : Int32) (mwo : Nat) (mim : Nat) (mhi : Nat) (mlu : Nat) (mtp : Nat) (x_td : Int32) (mfv : Nat) (x_sz : Int32) (x_at : Int32) (x_fr : Int32) (x_to : Int32) (x_va : Int32) (x_fk : Int32) (x_fp : Int32) (mfr : Nat) (mwt : Nat) (x_wt : Int32) (x_op : Int32) (x_jo : Int32) (mfg : Nat) (mpl : Nat) (x_dr : Int64) (mtm : Nat) (mfa : Nat) (mqu : Nat) (mmo : Nat) (mwy : Nat) (mwn : Nat) (mma : Nat) (mwi : Nat) (mnu : Nat) (mmv : Nat) (c_wo : ClassId) (c_nu : ClassId) (w_wo : Nat → Int32) (w_nu : Nat → Int64) (ln : Int32) (bs : Int32) (tk : Int32) (lw : Int32) (li : Int32) (a1 : Int32) (a2 : Int32) (b_ln : (0 : Int) ≤ ln.toInt ∧ ln.toInt ≤ 12) (b_bs : (0 : Int) ≤ bs.toInt ∧ bs.toInt ≤ 16) (b_tk : (0 : Int) ≤ tk.toInt ∧ tk.toInt ≤ 20000) (b_lw : (0 : Int) ≤ lw.toInt ∧ lw.toInt ≤ 9) (b_a1 : (0 : Int) ≤ a1.toInt ∧ a1.toInt ≤ 3) (b_a2 : (0 : Int) ≤ a2.toInt ∧ a2.toInt ≤ 11) (hw0 : w_wo 0 = ln) (hw1 : w_wo 1 = bs) (hw2 : w_wo 2 = tk) (hw3 : w_wo 3 = lw) (hw4 : w_wo 4 = li) (hwz : (ln.toInt = 0 ∧ bs.toInt = 0 ∧ tk.toInt = 0 ∧ lw.toInt = 0) ∨ (1 ≤ ln.toInt ∧ 2 ≤ bs.toInt ∧ 1 ≤ tk.toInt)) : Met l yX10_isTold uX10_isTold ({ frames := 1, cells := 0, slots := 0, locals := 25 }) (va_Pc [.ref o0, .int a1, .int a2] (pw (dC, dI) vwCl [(o0, .inr (8, [.int x_th, .ref mwo, .ref mim, .ref mhi, .ref mlu, .ref mtp, .int x_td, .ref mfv, .int x_sz, .int x_at, .int x_fr, .int x_to, .int x_va, .int x_fk, .int x_fp, .ref mfr, .ref mwt, .int x_wt, .int x_op, .int x_jo, .ref mfg, .ref mpl, .long x_dr, .ref mtm, .ref mfa, .ref mqu, .ref mmo, .ref mwy, .ref mwn, .ref mma, .ref mwi, .ref mnu, .ref mmv])), (mwo, .inl (c_wo, 1875, .inl w_wo)), (mnu, .inl (c_nu, 240, .inr (.inl w_nu)))] [(c_wo, .int), (c_nu, .long)])) (vp_Si (fun r => ((0 : Int) ≤ r.toInt ∧ r.toInt ≤ 1))) 0 0 (fun _ => False) := by
  refine Met.ofW (cc := cX10_isTold) (maxL := 3) (ret := (some .boolean)) pn_X10 rfl ?_
  intro p e s m args below meth c s₁ B hml hv
  obtain ⟨rfl, hP, hK, hN⟩ := hv
  have hx := B.exec
  have hb := B.bytes
  have hr := B.returns
  have hts := atoms_spec (ws := uX10_isTold) B.pre
  have hown : s.vm.findClass RX10 = some m.cls := hown_of B.named rfl
  have hlocks := B.notSynchronized
  have hl := lv_entry ([.ref o0, .int a1, .int a2]) (n := 3) (Nat.le_of_ble_eq_true rfl)
  rw [lg_entry_eq]
  generalize (lg_sl ([.ref o0, .int a1, .int a2]) ++ List.replicate (3 - (lg_sl ([.ref o0, .int a1, .int a2])).length) Slot.unset).toArray = ls at hl ⊢
  have hl : lv_has ls 3 [(0, .ref o0), (1, .int a1), (2, .int a2)] := hl
  refine lv_aload_n hx hb dX10_isTold_0 rfl (lv_at hl 0 rfl) ?_
  refine va_get (D := (dC, dI)) (ci := 8) (v := .ref mnu) (C := RX10) (T := TX10) (N := 33) hx hb hts iX10_isTold_X10 hown hK hP 0 rfl rfl 31 (by decide) (hts (.fieldLink RX10 71 "LuckyTicketModel" "numbers" "[J") (List.mem_of_getElem? (i := 1) rfl)) (fun _ h9 => h9) rfl dX10_isTold_1 ?_
  refine lv_bipush (v := 60) hx hb dX10_isTold_4 (by decide) ?_
  refine lv_iload_n hx hb dX10_isTold_6 rfl (lv_at hl 1 rfl) ?_
  refine lv_imul hx hb dX10_isTold_7 ?_
  refine lv_topi (fun z_8 e_z_8 => ?_)
  obtain ⟨q_z_8, b_z_8⟩ := ti_mul (lo := 0) (hi := 180) e_z_8 (by decide : (60 : Int32).toInt = 60) rfl (by decide : (60 : Int) ≤ (60 : Int32).toInt ∧ (60 : Int32).toInt ≤ 60) b_a1 (by decide)
  refine lv_iload_n hx hb dX10_isTold_8 rfl (lv_at hl 2 rfl) ?_
  refine lv_iadd hx hb dX10_isTold_9 ?_
  refine lv_topi (fun z_9 e_z_9 => ?_)
  obtain ⟨q_z_9, b_z_9⟩ := ti_add (lo := 0) (hi := 191) e_z_9 rfl rfl b_z_8 b_a2 (by decide)
  refine va_lald hx hb hK hP 2 1 rfl rfl (vp_in_b b_z_9 (by decide) (by decide)) dX10_isTold_10 ?_
  refine lv_topl (fun z_10 e_z_10 => ?_)
  refine lv_lconst (v := 0) hx hb dX10_isTold_11 (by decide) ?_
  refine lv_aload_n hx hb dX10_isTold_12 rfl (lv_at hl 0 rfl) ?_
  refine va_get (D := (dC, dI)) (ci := 8) (v := .ref mwo) (C := RX10) (T := TX10) (N := 33) hx hb hts iX10_isTold_X10 hown hK hP 0 rfl rfl 1 (by decide) (hts (.fieldLink RX10 9 "LuckyTicketModel" "world" "[I") (List.mem_of_getElem? (i := 2) rfl)) (fun _ h9 => h9) rfl dX10_isTold_13 ?_
  refine lv_iconst (v := 1) hx hb dX10_isTold_16 (by decide) ?_
  refine va_iald hx hb hK hP 1 0 rfl rfl (vp_in_b (by decide : (1 : Int) ≤ (1 : Int32).toInt ∧ (1 : Int32).toInt ≤ 1) (by decide) (by decide)) dX10_isTold_17 ?_
  refine lv_topi (fun z_11 e_z_11 => ?_)
  obtain rfl : bs = z_11 := (e_z_11.trans hw1).symm
  refine lv_iconst (v := 1) hx hb dX10_isTold_18 (by decide) ?_
  refine lv_isub hx hb dX10_isTold_19 ?_
  refine lv_topi (fun z_12 e_z_12 => ?_)
  obtain ⟨q_z_12, b_z_12⟩ := ti_sub (lo := -1) (hi := 15) e_z_12 rfl (by decide : (1 : Int32).toInt = 1) b_bs (by decide : (1 : Int) ≤ (1 : Int32).toInt ∧ (1 : Int32).toInt ≤ 1) (by decide)
  obtain ⟨z_13, e_z_13⟩ : ∃ y : Int64, y = z_12.toInt64 := ⟨_, rfl⟩
  refine lv_i2l (v := z_13) hx hb dX10_isTold_20 e_z_13.symm ?_
  obtain ⟨q_z_13, b_z_13⟩ := ti_i2l e_z_13 b_z_12
  refine vp_callSi (W.runS (As := [.long z_10, .long 0, .long z_13]) (rest := []) ⟨hx, hb, hml, hown, hts⟩ (kX10_in l dC dI z_10 0 z_13 ) (va_cwS 3 hts gX10_isTold__X10_in_S82 rfl rfl rfl hd_yX10_in.2 ⟨lel 1 1 rfl, lel 25 25 rfl⟩) ⟨pn_fb, pn_use⟩ rfl rfl hl.1 rfl (lv_room (Nat.le_of_ble_eq_true rfl)) dX10_isTold_21 ⟨lel 0 0 rfl, lel 0 0 rfl⟩) (fun r_14 h_r_14 => ?_)
  obtain ⟨b_r_14, nz_r_14⟩ := h_r_14
  have b_r_14 : (0 : Int) ≤ r_14.toInt ∧ r_14.toInt ≤ 1 := b_r_14
  exact W.zret (v := r_14) hx hb hr (zn_b b_r_14) (fun t ht hW => ⟨r_14, rfl, b_r_14, ht⟩) t_nil dX10_isTold_24
theorem dX10_canBe_0 : decode cX10_canBe 0 = .ok (.aload_n 0, 1) := by decide +kernel
theorem dX10_canBe_1 : decode cX10_canBe 1 = .ok (.iload_n 2, 1) := by decide +kernel
theorem dX10_canBe_2 : decode cX10_canBe 2 = .ok (.invokevirtual 302, 3) := by decide +kernel
theorem dX10_canBe_5 : decode cX10_canBe 5 = .ok (.iconst 1, 1) := by decide +kernel
theorem dX10_canBe_6 : decode cX10_canBe 6 = .ok (.istore_n 3, 1) := by decide +kernel
theorem dX10_canBe_7 : decode cX10_canBe 7 = .ok (.iconst 0, 1) := by decide +kernel
theorem dX10_canBe_8 : decode cX10_canBe 8 = .ok (.istore 4, 2) := by decide +kernel
theorem dX10_canBe_10 : decode cX10_canBe 10 = .ok (.iload 4, 2) := by decide +kernel
theorem dX10_canBe_12 : decode cX10_canBe 12 = .ok (.aload_n 0, 1) := by decide +kernel
theorem dX10_canBe_13 : decode cX10_canBe 13 = .ok (.getfield 9, 3) := by decide +kernel
theorem dX10_canBe_16 : decode cX10_canBe 16 = .ok (.iconst 0, 1) := by decide +kernel
theorem dX10_canBe_17 : decode cX10_canBe 17 = .ok (.iaload, 1) := by decide +kernel
theorem dX10_canBe_18 : decode cX10_canBe 18 = .ok (.if_icmp .ge 53, 3) := by decide +kernel
theorem dX10_canBe_21 : decode cX10_canBe 21 = .ok (.iload_n 3, 1) := by decide +kernel
theorem dX10_canBe_22 : decode cX10_canBe 22 = .ok (.ifCond .eq 41, 3) := by decide +kernel
theorem dX10_canBe_25 : decode cX10_canBe 25 = .ok (.aload_n 0, 1) := by decide +kernel
theorem dX10_canBe_26 : decode cX10_canBe 26 = .ok (.iload_n 1, 1) := by decide +kernel
theorem dX10_canBe_27 : decode cX10_canBe 27 = .ok (.iload 4, 2) := by decide +kernel
theorem dX10_canBe_29 : decode cX10_canBe 29 = .ok (.invokevirtual 372, 3) := by decide +kernel
theorem dX10_canBe_32 : decode cX10_canBe 32 = .ok (.ifCond .eq 27, 3) := by decide +kernel
theorem dX10_canBe_35 : decode cX10_canBe 35 = .ok (.aload_n 0, 1) := by decide +kernel
theorem dX10_canBe_36 : decode cX10_canBe 36 = .ok (.getfield 71, 3) := by decide +kernel
theorem dX10_canBe_39 : decode cX10_canBe 39 = .ok (.bipush 60, 2) := by decide +kernel
theorem dX10_canBe_41 : decode cX10_canBe 41 = .ok (.iload_n 1, 1) := by decide +kernel
theorem dX10_canBe_42 : decode cX10_canBe 42 = .ok (.imul, 1) := by decide +kernel
theorem dX10_canBe_43 : decode cX10_canBe 43 = .ok (.iload 4, 2) := by decide +kernel
theorem dX10_canBe_45 : decode cX10_canBe 45 = .ok (.iadd, 1) := by decide +kernel
theorem dX10_canBe_46 : decode cX10_canBe 46 = .ok (.laload, 1) := by decide +kernel
theorem dX10_canBe_47 : decode cX10_canBe 47 = .ok (.aload_n 0, 1) := by decide +kernel
theorem dX10_canBe_48 : decode cX10_canBe 48 = .ok (.getfield 40, 3) := by decide +kernel
theorem dX10_canBe_51 : decode cX10_canBe 51 = .ok (.iload 4, 2) := by decide +kernel
theorem dX10_canBe_53 : decode cX10_canBe 53 = .ok (.iaload, 1) := by decide +kernel
theorem dX10_canBe_54 : decode cX10_canBe 54 = .ok (.i2l, 1) := by decide +kernel
theorem dX10_canBe_55 : decode cX10_canBe 55 = .ok (.lcmp, 1) := by decide +kernel
theorem dX10_canBe_56 : decode cX10_canBe 56 = .ok (.ifCond .ne 7, 3) := by decide +kernel
theorem dX10_canBe_59 : decode cX10_canBe 59 = .ok (.iconst 1, 1) := by decide +kernel
theorem dX10_canBe_60 : decode cX10_canBe 60 = .ok (.goto 4, 3) := by decide +kernel
theorem dX10_canBe_63 : decode cX10_canBe 63 = .ok (.iconst 0, 1) := by decide +kernel
theorem dX10_canBe_64 : decode cX10_canBe 64 = .ok (.istore_n 3, 1) := by decide +kernel
theorem dX10_canBe_65 : decode cX10_canBe 65 = .ok (.iinc 4 1, 3) := by decide +kernel
theorem dX10_canBe_68 : decode cX10_canBe 68 = .ok (.goto (-58), 3) := by decide +kernel
theorem dX10_canBe_71 : decode cX10_canBe 71 = .ok (.iload_n 3, 1) := by decide +kernel
theorem dX10_canBe_72 : decode cX10_canBe 72 = .ok (.ireturn, 1) := by decide +kernel
theorem hd_yX10_canBe : yX10_canBe.cls = RX10 ∧ yX10_canBe.cls ≠ "java/lang/invoke/MethodHandle" ∧ yX10_canBe.cls ≠ "java/lang/invoke/VarHandle" ∧ (parseMethodDescriptor yX10_canBe.desc).map (fun d => d.parameters.length) = some 2 := by decide +kernel
def uX10_canBe : List Cond := List.cons (.code yX10_canBe cX10_canBe 5 (some .boolean)) (HAppend.hAppend ([.methodLink RX10 302 yX10_fillFigures, .instanceMethod yX10_fillFigures, .selects RX10 yX10_fillFigures yX10_fillFigures, .initialized RX10, .fieldLink RX10 9 "LuckyTicketModel" "world" "[I", .methodLink RX10 372 yX10_isTold, .instanceMethod yX10_isTold, .selects RX10 yX10_isTold yX10_isTold, .fieldLink RX10 71 "LuckyTicketModel" "numbers" "[J", .fieldLink RX10 40 "LuckyTicketModel" "figures" "[I"] : List Cond) (HAppend.hAppend uX10_fillFigures (HAppend.hAppend uX10_isTold wsX100)))
theorem iX10_canBe_X10 : ∀ w ∈ wsX100, w ∈ uX10_canBe := fun _ h => (List.mem_cons_of_mem _ (List.mem_append_right _ (List.mem_append_right _ (List.mem_append_right _ h))))
theorem guX10_canBe : GU uX10_canBe := gu_cons (gu_app (by decide +kernel) (gu_ap guX10_fillFigures (gu_ap guX10_isTold gws_X10)))
theorem gX10_canBe__X10_fillFigures_V302 : GoodIn uX10_canBe (wsV RX10 302 RX10 yX10_fillFigures uX10_fillFigures) := gin_V (List.mem_of_getElem? (i := 1) rfl) (List.mem_of_getElem? (i := 2) rfl) (List.mem_of_getElem? (i := 3) rfl) (List.mem_of_getElem? (i := 4) rfl) (fun _ h => (List.mem_cons_of_mem _ (List.mem_append_right _ (List.mem_append_left _ h)))) guX10_fillFigures
theorem gX10_canBe__X10_isTold_V372 : GoodIn uX10_canBe (wsV RX10 372 RX10 yX10_isTold uX10_isTold) := gin_V (List.mem_of_getElem? (i := 6) rfl) (List.mem_of_getElem? (i := 7) rfl) (List.mem_of_getElem? (i := 8) rfl) (List.mem_of_getElem? (i := 4) rfl) (fun _ h => (List.mem_cons_of_mem _ (List.mem_append_right _ (List.mem_append_right _ (List.mem_append_left _ h))))) guX10_isTold
set_option maxHeartbeats 4000000 in
set_option maxRecDepth 100000 in
theorem kX10_canBe (l : Launch) (dC : Nat → ClassId) (dI : Nat → Nat → Nat) (o0 : Nat) (x_th : Int32) (mwo : Nat) (mim : Nat) (mhi : Nat) (mlu : Nat) (mtp : Nat) (x_td : Int32) (mfv : Nat) (x_sz : Int32) (x_at : Int32) (x_fr : Int32) (x_to : Int32) (x_va : Int32) (x_fk : Int32) (x_fp : Int32) (mfr : Nat) (mwt : Nat) (x_wt : Int32) (x_op : Int32) (x_jo : Int32) (mfg : Nat) (mpl : Nat) (x_dr : Int64) (mtm : Nat) (mfa : Nat) (mqu : Nat) (mmo : Nat) (mwy : Nat) (mwn : Nat) (mma : Nat) (mwi : Nat) (mnu : Nat) (mmv : Nat) (c_wo : ClassId) (c_fg : ClassId) (c_nu : ClassId) (w_wo : Nat → Int32) (w_fg : Nat → Int32) (w_nu : Nat → Int64) (ln : Int32) (bs : Int32) (tk : Int32) (lw : Int32) (li : Int32) (a1 : Int32) (a2 : Int32) (sz : Nat) (b_ln : (0 : Int) ≤ ln.toInt ∧ ln.toInt ≤ 12) (b_bs : (0 : Int) ≤ bs.toInt ∧ bs.toInt ≤ 16) (b_tk : (0 : Int) ≤ tk.toInt ∧ tk.toInt ≤ 20000) (b_lw : (0 : Int) ≤ lw.toInt ∧ lw.toInt ≤ 9) (b_a1 : (0 : Int) ≤ a1.toInt ∧ a1.toInt ≤ 3) (b_a2 : (0 : Int) ≤ a2.toInt ∧ a2.toInt ≤ 19999) (ha_mfg : rg w_fg 12 0 15) (hw0 : w_wo 0 = ln) (hw1 : w_wo 1 = bs) (hw2 : w_wo 2 = tk) (hw3 : w_wo 3 = lw) (hw4 : w_wo 4 = li) (hwz : (ln.toInt = 0 ∧ bs.toInt = 0 ∧ tk.toInt = 0 ∧ lw.toInt = 0) ∨ (1 ≤ ln.toInt ∧ 2 ≤ bs.toInt ∧ 1 ≤ tk.toInt)) : Met l yX10_canBe uX10_canBe ({ frames := 2, cells := 0, slots := 0, locals := 47 }) (va_Pc [.ref o0, .int a1, .int a2] (hw (dC, dI) vwCl [(o0, .inr (8, [.int x_th, .ref mwo, .ref mim, .ref mhi, .ref mlu, .ref mtp, .int x_td, .ref mfv, .int x_sz, .int x_at, .int x_fr, .int x_to, .int x_va, .int x_fk, .int x_fp, .ref mfr, .ref mwt, .int x_wt, .int x_op, .int x_jo, .ref mfg, .ref mpl, .long x_dr, .ref mtm, .ref mfa, .ref mqu, .ref mmo, .ref mwy, .ref mwn, .ref mma, .ref mwi, .ref mnu, .ref mmv])), (mwo, .inl (c_wo, 1875, .inl w_wo)), (mfg, .inl (c_fg, 12, .inl w_fg)), (mnu, .inl (c_nu, 240, .inr (.inl w_nu)))] [(c_wo, .int), (c_fg, .int), (c_nu, .long)] sz)) (va_Qi (fun (r : Int32) (_ : Unit) => ((0 : Int) ≤ r.toInt ∧ r.toInt ≤ 1)) (fun (_ : Unit) t => ∃ (o0_ : Nat → Int32), (rg o0_ 12 0 15) ∧ va_P (dC, dI) vwCl [(o0, .inr (8, [.int x_th, .ref mwo, .ref mim, .ref mhi, .ref mlu, .ref mtp, .int x_td, .ref mfv, .int x_sz, .int x_at, .int x_fr, .int x_to, .int x_va, .int x_fk, .int x_fp, .ref mfr, .ref mwt, .int x_wt, .int x_op, .int x_jo, .ref mfg, .ref mpl, .long x_dr, .ref mtm, .ref mfa, .ref mqu, .ref mmo, .ref mwy, .ref mwn, .ref mma, .ref mwi, .ref mnu, .ref mmv])), (mwo, .inl (c_wo, 1875, .inl w_wo)), (mfg, .inl (c_fg, 12, .inl o0_)), (mnu, .inl (c_nu, 240, .inr (.inl w_nu)))] t.heap ∧ va_K (dC, dI) vwCl [(c_wo, .int), (c_fg, .int), (c_nu, .long)] t ∧ va_D (va_A [(o0, .inr (8, [.int x_th, .ref mwo, .ref mim, .ref mhi, .ref mlu, .ref mtp, .int x_td, .ref mfv, .int x_sz, .int x_at, .int x_fr, .int x_to, .int x_va, .int x_fk, .int x_fp, .ref mfr, .ref mwt, .int x_wt, .int x_op, .int x_jo, .ref mfg, .ref mpl, .long x_dr, .ref mtm, .ref mfa, .ref mqu, .ref mmo, .ref mwy, .ref mwn, .ref mma, .ref mwi, .ref mnu, .ref mmv])), (mwo, .inl (c_wo, 1875, .inl w_wo)), (mfg, .inl (c_fg, 12, .inl w_fg)), (mnu, .inl (c_nu, 240, .inr (.inl w_nu)))] sz) [(o0, .inr (8, [.int x_th, .ref mwo, .ref mim, .ref mhi, .ref mlu, .ref mtp, .int x_td, .ref mfv, .int x_sz, .int x_at, .int x_fr, .int x_to, .int x_va, .int x_fk, .int x_fp, .ref mfr, .ref mwt, .int x_wt, .int x_op, .int x_jo, .ref mfg, .ref mpl, .long x_dr, .ref mtm, .ref mfa, .ref mqu, .ref mmo, .ref mwy, .ref mwn, .ref mma, .ref mwi, .ref mnu, .ref mmv])), (mwo, .inl (c_wo, 1875, .inl w_wo)), (mfg, .inl (c_fg, 12, .inl o0_)), (mnu, .inl (c_nu, 240, .inr (.inl w_nu)))]) (va_A [(o0, .inr (8, [.int x_th, .ref mwo, .ref mim, .ref mhi, .ref mlu, .ref mtp, .int x_td, .ref mfv, .int x_sz, .int x_at, .int x_fr, .int x_to, .int x_va, .int x_fk, .int x_fp, .ref mfr, .ref mwt, .int x_wt, .int x_op, .int x_jo, .ref mfg, .ref mpl, .long x_dr, .ref mtm, .ref mfa, .ref mqu, .ref mmo, .ref mwy, .ref mwn, .ref mma, .ref mwi, .ref mnu, .ref mmv])), (mwo, .inl (c_wo, 1875, .inl w_wo)), (mfg, .inl (c_fg, 12, .inl w_fg)), (mnu, .inl (c_nu, 240, .inr (.inl w_nu)))] sz)) 0 0 (va_A [(o0, .inr (8, [.int x_th, .ref mwo, .ref mim, .ref mhi, .ref mlu, .ref mtp, .int x_td, .ref mfv, .int x_sz, .int x_at, .int x_fr, .int x_to, .int x_va, .int x_fk, .int x_fp, .ref mfr, .ref mwt, .int x_wt, .int x_op, .int x_jo, .ref mfg, .ref mpl, .long x_dr, .ref mtm, .ref mfa, .ref mqu, .ref mmo, .ref mwy, .ref mwn, .ref mma, .ref mwi, .ref mnu, .ref mmv])), (mwo, .inl (c_wo, 1875, .inl w_wo)), (mfg, .inl (c_fg, 12, .inl w_fg)), (mnu, .inl (c_nu, 240, .inr (.inl w_nu)))] sz) := by
  refine Met.ofW (cc := cX10_canBe) (maxL := 5) (ret := (some .boolean)) pn_X10 rfl ?_
  intro p e s m args below meth c s₁ B hml hv
  obtain ⟨rfl, hsz, hP, hK, hD0, hN⟩ := hv
  have hx := B.exec
  have hb := B.bytes
  have hr := B.returns
  have hts := atoms_spec (ws := uX10_canBe) B.pre
  have hown : s.vm.findClass RX10 = some m.cls := hown_of B.named rfl
  have hlocks := B.notSynchronized
  subst hsz
  have hD := hD0.self (sz := s.heap.size)
  generalize hAe : va_A [(o0, .inr (8, [.int x_th, .ref mwo, .ref mim, .ref mhi, .ref mlu, .ref mtp, .int x_td, .ref mfv, .int x_sz, .int x_at, .int x_fr, .int x_to, .int x_va, .int x_fk, .int x_fp, .ref mfr, .ref mwt, .int x_wt, .int x_op, .int x_jo, .ref mfg, .ref mpl, .long x_dr, .ref mtm, .ref mfa, .ref mqu, .ref mmo, .ref mwy, .ref mwn, .ref mma, .ref mwi, .ref mnu, .ref mmv])), (mwo, .inl (c_wo, 1875, .inl w_wo)), (mfg, .inl (c_fg, 12, .inl w_fg)), (mnu, .inl (c_nu, 240, .inr (.inl w_nu)))] s.heap.size = A at hD ⊢
  have hA : ∀ q : Nat, s.heap.size ≤ q → A q := fun q h => by rw [← hAe]; exact Or.inr h
  have hS : va_S A s.heap s.heap [] := va_S.rf
  have hP : va_P (dC, dI) vwCl [(o0, .inr (8, [.int x_th, .ref mwo, .ref mim, .ref mhi, .ref mlu, .ref mtp, .int x_td, .ref mfv, .int x_sz, .int x_at, .int x_fr, .int x_to, .int x_va, .int x_fk, .int x_fp, .ref mfr, .ref mwt, .int x_wt, .int x_op, .int x_jo, .ref mfg, .ref mpl, .long x_dr, .ref mtm, .ref mfa, .ref mqu, .ref mmo, .ref mwy, .ref mwn, .ref mma, .ref mwi, .ref mnu, .ref mmv])), (mwo, .inl (c_wo, 1875, .inl w_wo)), (mfg, .inl (c_fg, 12, .inl w_fg)), (mnu, .inl (c_nu, 240, .inr (.inl w_nu)))] s.heap := hP
  have hl := lv_entry ([.ref o0, .int a1, .int a2]) (n := 5) (Nat.le_of_ble_eq_true rfl)
  rw [lg_entry_eq]
  generalize (lg_sl ([.ref o0, .int a1, .int a2]) ++ List.replicate (5 - (lg_sl ([.ref o0, .int a1, .int a2])).length) Slot.unset).toArray = ls at hl ⊢
  have hl : lv_has ls 5 [(0, .ref o0), (1, .int a1), (2, .int a2)] := hl
  refine lv_aload_n hx hb dX10_canBe_0 rfl (lv_at hl 0 rfl) ?_
  refine lv_iload_n hx hb dX10_canBe_1 rfl (lv_at hl 2 rfl) ?_
  have hFc := va_free (wc := [(o0, .inr (8, [.int x_th, .ref mwo, .ref mim, .ref mhi, .ref mlu, .ref mtp, .int x_td, .ref mfv, .int x_sz, .int x_at, .int x_fr, .int x_to, .int x_va, .int x_fk, .int x_fp, .ref mfr, .ref mwt, .int x_wt, .int x_op, .int x_jo, .ref mfg, .ref mpl, .long x_dr, .ref mtm, .ref mfa, .ref mqu, .ref mmo, .ref mwy, .ref mwn, .ref mma, .ref mwi, .ref mnu, .ref mmv])), (mwo, .inl (c_wo, 1875, .inl w_wo)), (mfg, .inl (c_fg, 12, .inl w_fg))]) hD hS hA [0, 1, 2] rfl
  refine va_callv (va_runV (As := [.int a2]) (rest := []) ⟨hx, hb, hml, hown, hts⟩ (kX10_fillFigures l dC dI o0 x_th mwo mim mhi mlu mtp x_td mfv x_sz x_at x_fr x_to x_va x_fk x_fp mfr mwt x_wt x_op x_jo mfg mpl x_dr mtm mfa mqu mmo mwy mwn mma mwi mnu mmv c_wo c_fg w_wo w_fg ln bs tk lw li a2 (s.heap.size) b_ln b_bs b_tk b_lw b_a2 ha_mfg (hw0) (hw1) (hw2) (hw3) (hw4) (hwz)) (cwV 1 hts gX10_canBe__X10_fillFigures_V302 rfl rfl rfl hd_yX10_fillFigures ⟨lel 1 2 rfl, lel 23 47 rfl⟩) ⟨hw_fb, rcv_X10 hK hP (q0 := 0) rfl, (hw_use hP hD hK hN [0, 1, 2] rfl (by decide) rfl [0, 1] rfl)⟩ rfl rfl hl.1 rfl (lv_room (Nat.le_of_ble_eq_true rfl)) dX10_canBe_2 ⟨lel 0 0 rfl, lel 0 0 rfl⟩) hS (fun q _ h => hFc q h) hFc (fun u_111 t H1 locs ht hvm hw_r_110 hB hz1 hk1 hS => ?_)
  obtain ⟨o0_112, ha_113, hP1, hK1, hD1⟩ := hB
  rw [ht] at hP1
  have hK1 := va_K.moved hvm.symm hK1
  obtain ⟨hP, hD⟩ := va_join (wr := [(mnu, .inl (c_nu, 240, .inr (.inl w_nu)))]) (w1 := [(o0, .inr (8, [.int x_th, .ref mwo, .ref mim, .ref mhi, .ref mlu, .ref mtp, .int x_td, .ref mfv, .int x_sz, .int x_at, .int x_fr, .int x_to, .int x_va, .int x_fk, .int x_fp, .ref mfr, .ref mwt, .int x_wt, .int x_op, .int x_jo, .ref mfg, .ref mpl, .long x_dr, .ref mtm, .ref mfa, .ref mqu, .ref mmo, .ref mwy, .ref mwn, .ref mma, .ref mwi, .ref mnu, .ref mmv])), (mwo, .inl (c_wo, 1875, .inl w_wo)), (mfg, .inl (c_fg, 12, .inl o0_112))]) hP hD [0, 1, 2] [3] rfl rfl (by decide) (by decide) hk1 hFc hP1 hD1
  have hK := (hK.sub (tys' := [(c_nu, .long)]) [2] rfl).app hK1
  generalize H1 = H at hP hS ⊢
  have hP := hP.sub (ws' := [(o0, .inr (8, [.int x_th, .ref mwo, .ref mim, .ref mhi, .ref mlu, .ref mtp, .int x_td, .ref mfv, .int x_sz, .int x_at, .int x_fr, .int x_to, .int x_va, .int x_fk, .int x_fp, .ref mfr, .ref mwt, .int x_wt, .int x_op, .int x_jo, .ref mfg, .ref mpl, .long x_dr, .ref mtm, .ref mfa, .ref mqu, .ref mmo, .ref mwy, .ref mwn, .ref mma, .ref mwi, .ref mnu, .ref mmv])), (mwo, .inl (c_wo, 1875, .inl w_wo)), (mfg, .inl (c_fg, 12, .inl o0_112)), (mnu, .inl (c_nu, 240, .inr (.inl w_nu)))]) [1, 2, 3, 0] rfl
  have hD := hD.sub (ws' := [(o0, .inr (8, [.int x_th, .ref mwo, .ref mim, .ref mhi, .ref mlu, .ref mtp, .int x_td, .ref mfv, .int x_sz, .int x_at, .int x_fr, .int x_to, .int x_va, .int x_fk, .int x_fp, .ref mfr, .ref mwt, .int x_wt, .int x_op, .int x_jo, .ref mfg, .ref mpl, .long x_dr, .ref mtm, .ref mfa, .ref mqu, .ref mmo, .ref mwy, .ref mwn, .ref mma, .ref mwi, .ref mnu, .ref mmv])), (mwo, .inl (c_wo, 1875, .inl w_wo)), (mfg, .inl (c_fg, 12, .inl o0_112)), (mnu, .inl (c_nu, 240, .inr (.inl w_nu)))]) [1, 2, 3, 0] (by decide) rfl
  have hK := hK.sub (tys' := [(c_wo, .int), (c_fg, .int), (c_nu, .long)]) [1, 2, 0] rfl
  have hP : va_P (dC, dI) vwCl [(o0, .inr (8, [.int x_th, .ref mwo, .ref mim, .ref mhi, .ref mlu, .ref mtp, .int x_td, .ref mfv, .int x_sz, .int x_at, .int x_fr, .int x_to, .int x_va, .int x_fk, .int x_fp, .ref mfr, .ref mwt, .int x_wt, .int x_op, .int x_jo, .ref mfg, .ref mpl, .long x_dr, .ref mtm, .ref mfa, .ref mqu, .ref mmo, .ref mwy, .ref mwn, .ref mma, .ref mwi, .ref mnu, .ref mmv])), (mwo, .inl (c_wo, 1875, .inl w_wo)), (mfg, .inl (c_fg, 12, .inl o0_112)), (mnu, .inl (c_nu, 240, .inr (.inl w_nu)))] H := hP
  have hD : va_D A [(o0, .inr (8, [.int x_th, .ref mwo, .ref mim, .ref mhi, .ref mlu, .ref mtp, .int x_td, .ref mfv, .int x_sz, .int x_at, .int x_fr, .int x_to, .int x_va, .int x_fk, .int x_fp, .ref mfr, .ref mwt, .int x_wt, .int x_op, .int x_jo, .ref mfg, .ref mpl, .long x_dr, .ref mtm, .ref mfa, .ref mqu, .ref mmo, .ref mwy, .ref mwn, .ref mma, .ref mwi, .ref mnu, .ref mmv])), (mwo, .inl (c_wo, 1875, .inl w_wo)), (mfg, .inl (c_fg, 12, .inl o0_112)), (mnu, .inl (c_nu, 240, .inr (.inl w_nu)))] := hD
  have hK : va_K (dC, dI) vwCl [(c_wo, .int), (c_fg, .int), (c_nu, .long)] s := hK
  refine lv_iconst (v := 1) hx hb dX10_canBe_5 (by decide) ?_
  refine lv_istore_n (lv' := [(3, .int 1), (0, .ref o0), (1, .int a1), (2, .int a2)]) hx hb dX10_canBe_6 rfl hl (by decide) rfl (fun ls hl => ?_)
  refine lv_iconst (v := 0) hx hb dX10_canBe_7 (by decide) ?_
  refine lv_istore (lv' := [(4, .int 0), (3, .int 1), (0, .ref o0), (1, .int a1), (2, .int a2)]) hx hb dX10_canBe_8 hl (by decide) rfl (fun ls hl => ?_)
  refine loopW (σ := Int32 × Int32) (fun v => (12 - v.1.toInt).toNat) (fun v H locs ls => ((0 : Int) ≤ v.1.toInt ∧ v.1.toInt ≤ 12) ∧ ((0 : Int) ≤ v.2.toInt ∧ v.2.toInt ≤ 1) ∧ va_P (dC, dI) vwCl [(o0, .inr (8, [.int x_th, .ref mwo, .ref mim, .ref mhi, .ref mlu, .ref mtp, .int x_td, .ref mfv, .int x_sz, .int x_at, .int x_fr, .int x_to, .int x_va, .int x_fk, .int x_fp, .ref mfr, .ref mwt, .int x_wt, .int x_op, .int x_jo, .ref mfg, .ref mpl, .long x_dr, .ref mtm, .ref mfa, .ref mqu, .ref mmo, .ref mwy, .ref mwn, .ref mma, .ref mwi, .ref mnu, .ref mmv])), (mwo, .inl (c_wo, 1875, .inl w_wo)), (mfg, .inl (c_fg, 12, .inl o0_112)), (mnu, .inl (c_nu, 240, .inr (.inl w_nu)))] H ∧ va_D A [(o0, .inr (8, [.int x_th, .ref mwo, .ref mim, .ref mhi, .ref mlu, .ref mtp, .int x_td, .ref mfv, .int x_sz, .int x_at, .int x_fr, .int x_to, .int x_va, .int x_fk, .int x_fp, .ref mfr, .ref mwt, .int x_wt, .int x_op, .int x_jo, .ref mfg, .ref mpl, .long x_dr, .ref mtm, .ref mfa, .ref mqu, .ref mmo, .ref mwy, .ref mwn, .ref mma, .ref mwi, .ref mnu, .ref mmv])), (mwo, .inl (c_wo, 1875, .inl w_wo)), (mfg, .inl (c_fg, 12, .inl o0_112)), (mnu, .inl (c_nu, 240, .inr (.inl w_nu)))] ∧ va_S A s.heap H locs ∧ lv_has ls 5 [(4, .int v.1), (3, .int v.2), (0, .ref o0), (1, .int a1), (2, .int a2)]) (fun v H locs ls hI ih_10_197 => ?_) ((0 : Int32), (1 : Int32)) ⟨(show (0 : Int) ≤ (0 : Int32).toInt ∧ (0 : Int32).toInt ≤ 12 from (rg_w (by decide : (0 : Int) ≤ (0 : Int32).toInt ∧ (0 : Int32).toInt ≤ 0) (by decide) (by decide))), (show (0 : Int) ≤ (1 : Int32).toInt ∧ (1 : Int32).toInt ≤ 1 from (rg_w (by decide : (1 : Int) ≤ (1 : Int32).toInt ∧ (1 : Int32).toInt ≤ 1) (by decide) (by decide))), hP, hD, hS, lv_sub hl [0, 1, 2, 3, 4] rfl⟩
  obtain ⟨y_133, y_134⟩ := v
  obtain ⟨b_y_133, b_y_134, hP, hD, hS, hl⟩ := hI
  have b_y_133 : (0 : Int) ≤ y_133.toInt ∧ y_133.toInt ≤ 12 := b_y_133
  have b_y_134 : (0 : Int) ≤ y_134.toInt ∧ y_134.toInt ≤ 1 := b_y_134
  have hP : va_P (dC, dI) vwCl [(o0, .inr (8, [.int x_th, .ref mwo, .ref mim, .ref mhi, .ref mlu, .ref mtp, .int x_td, .ref mfv, .int x_sz, .int x_at, .int x_fr, .int x_to, .int x_va, .int x_fk, .int x_fp, .ref mfr, .ref mwt, .int x_wt, .int x_op, .int x_jo, .ref mfg, .ref mpl, .long x_dr, .ref mtm, .ref mfa, .ref mqu, .ref mmo, .ref mwy, .ref mwn, .ref mma, .ref mwi, .ref mnu, .ref mmv])), (mwo, .inl (c_wo, 1875, .inl w_wo)), (mfg, .inl (c_fg, 12, .inl o0_112)), (mnu, .inl (c_nu, 240, .inr (.inl w_nu)))] H := hP
  have hD : va_D A [(o0, .inr (8, [.int x_th, .ref mwo, .ref mim, .ref mhi, .ref mlu, .ref mtp, .int x_td, .ref mfv, .int x_sz, .int x_at, .int x_fr, .int x_to, .int x_va, .int x_fk, .int x_fp, .ref mfr, .ref mwt, .int x_wt, .int x_op, .int x_jo, .ref mfg, .ref mpl, .long x_dr, .ref mtm, .ref mfa, .ref mqu, .ref mmo, .ref mwy, .ref mwn, .ref mma, .ref mwi, .ref mnu, .ref mmv])), (mwo, .inl (c_wo, 1875, .inl w_wo)), (mfg, .inl (c_fg, 12, .inl o0_112)), (mnu, .inl (c_nu, 240, .inr (.inl w_nu)))] := hD
  have hl : lv_has ls 5 [(4, .int y_133), (3, .int y_134), (0, .ref o0), (1, .int a1), (2, .int a2)] := hl
  refine lv_iload hx hb dX10_canBe_10 (lv_at hl 0 rfl) ?_
  refine lv_aload_n hx hb dX10_canBe_12 rfl (lv_at hl 2 rfl) ?_
  refine va_get (D := (dC, dI)) (ci := 8) (v := .ref mwo) (C := RX10) (T := TX10) (N := 33) hx hb hts iX10_canBe_X10 hown hK hP 0 rfl rfl 1 (by decide) (hts (.fieldLink RX10 9 "LuckyTicketModel" "world" "[I") (List.mem_of_getElem? (i := 5) rfl)) (fun _ h9 => h9) rfl dX10_canBe_13 ?_
  refine lv_iconst (v := 0) hx hb dX10_canBe_16 (by decide) ?_
  refine va_iald hx hb hK hP 1 0 rfl rfl (vp_in_b (by decide : (0 : Int) ≤ (0 : Int32).toInt ∧ (0 : Int32).toInt ≤ 0) (by decide) (by decide)) dX10_canBe_17 ?_
  refine lv_topi (fun z_198 e_z_198 => ?_)
  obtain rfl : ln = z_198 := (e_z_198.trans hw0).symm
  refine lv_icmp_ge (tgt := 71) hx hb dX10_canBe_18 (by decide) (fun c_199 => ?_) (fun c_199 => ?_)
  ·
    have n_c_199 : (ln.toInt : Int) ≤ y_133.toInt := c_ge rfl rfl c_199
    refine lv_iload_n hx hb dX10_canBe_71 rfl (lv_at hl 1 rfl) ?_
    have hP9 := hP.sub (ws' := [(o0, .inr (8, [.int x_th, .ref mwo, .ref mim, .ref mhi, .ref mlu, .ref mtp, .int x_td, .ref mfv, .int x_sz, .int x_at, .int x_fr, .int x_to, .int x_va, .int x_fk, .int x_fp, .ref mfr, .ref mwt, .int x_wt, .int x_op, .int x_jo, .ref mfg, .ref mpl, .long x_dr, .ref mtm, .ref mfa, .ref mqu, .ref mmo, .ref mwy, .ref mwn, .ref mma, .ref mwi, .ref mnu, .ref mmv])), (mwo, .inl (c_wo, 1875, .inl w_wo)), (mfg, .inl (c_fg, 12, .inl o0_112)), (mnu, .inl (c_nu, 240, .inr (.inl w_nu)))]) [0, 1, 2, 3] rfl
    have hD9 := hD.sub (ws' := [(o0, .inr (8, [.int x_th, .ref mwo, .ref mim, .ref mhi, .ref mlu, .ref mtp, .int x_td, .ref mfv, .int x_sz, .int x_at, .int x_fr, .int x_to, .int x_va, .int x_fk, .int x_fp, .ref mfr, .ref mwt, .int x_wt, .int x_op, .int x_jo, .ref mfg, .ref mpl, .long x_dr, .ref mtm, .ref mfa, .ref mqu, .ref mmo, .ref mwy, .ref mwn, .ref mma, .ref mwi, .ref mnu, .ref mmv])), (mwo, .inl (c_wo, 1875, .inl w_wo)), (mfg, .inl (c_fg, 12, .inl o0_112)), (mnu, .inl (c_nu, 240, .inr (.inl w_nu)))]) [0, 1, 2, 3] (by decide) rfl
    have hK9 := hK.sub (tys' := [(c_wo, .int), (c_fg, .int), (c_nu, .long)]) [0, 1, 2] rfl
    exact W.zret (v := y_134) hx hb hr (zn_b b_y_134) (fun t ht hW => ⟨⟨y_134, (), rfl, b_y_134, o0_112, ha_113, by rw [ht]; exact hP9, va_K.moved hW.alike hK9, hD9⟩, hS.F ht⟩) hS.2.2 dX10_canBe_72
  ·
    have n_c_199 : (y_133.toInt : Int) < ln.toInt := c_nge rfl rfl c_199
    have b_y_133 : (0 : Int) ≤ y_133.toInt ∧ y_133.toInt ≤ 11 := r_lt1 b_y_133 b_ln n_c_199 (by decide)
    have b_ln : (1 : Int) ≤ ln.toInt ∧ ln.toInt ≤ 12 := r_lt2 b_y_133 b_ln n_c_199 (by decide)
    refine lv_iload_n hx hb dX10_canBe_21 rfl (lv_at hl 1 rfl) ?_
    refine cutW (σ := Int32) (pc2 := 64) (st2 := fun v => [.int v]) (cells2 := 0) (slots2 := 0) (fun v H locs ls => ((0 : Int) ≤ v.toInt ∧ v.toInt ≤ 1) ∧ va_P (dC, dI) vwCl [(o0, .inr (8, [.int x_th, .ref mwo, .ref mim, .ref mhi, .ref mlu, .ref mtp, .int x_td, .ref mfv, .int x_sz, .int x_at, .int x_fr, .int x_to, .int x_va, .int x_fk, .int x_fp, .ref mfr, .ref mwt, .int x_wt, .int x_op, .int x_jo, .ref mfg, .ref mpl, .long x_dr, .ref mtm, .ref mfa, .ref mqu, .ref mmo, .ref mwy, .ref mwn, .ref mma, .ref mwi, .ref mnu, .ref mmv])), (mwo, .inl (c_wo, 1875, .inl w_wo)), (mfg, .inl (c_fg, 12, .inl o0_112)), (mnu, .inl (c_nu, 240, .inr (.inl w_nu)))] H ∧ va_D A [(o0, .inr (8, [.int x_th, .ref mwo, .ref mim, .ref mhi, .ref mlu, .ref mtp, .int x_td, .ref mfv, .int x_sz, .int x_at, .int x_fr, .int x_to, .int x_va, .int x_fk, .int x_fp, .ref mfr, .ref mwt, .int x_wt, .int x_op, .int x_jo, .ref mfg, .ref mpl, .long x_dr, .ref mtm, .ref mfa, .ref mqu, .ref mmo, .ref mwy, .ref mwn, .ref mma, .ref mwi, .ref mnu, .ref mmv])), (mwo, .inl (c_wo, 1875, .inl w_wo)), (mfg, .inl (c_fg, 12, .inl o0_112)), (mnu, .inl (c_nu, 240, .inr (.inl w_nu)))] ∧ va_S A s.heap H locs ∧ lv_has ls 5 [(4, .int y_133), (3, .int y_134), (0, .ref o0), (1, .int a1), (2, .int a2)]) (fun v H locs ls hI => ?_) (fun hj_64_209 => ?_)
    ·
      obtain ⟨y_209, rfl⟩ : ∃ z, z = v := ⟨_, rfl⟩
      obtain ⟨b_y_209, hP, hD, hS, hl⟩ := hI
      have b_y_209 : (0 : Int) ≤ y_209.toInt ∧ y_209.toInt ≤ 1 := b_y_209
      have hP : va_P (dC, dI) vwCl [(o0, .inr (8, [.int x_th, .ref mwo, .ref mim, .ref mhi, .ref mlu, .ref mtp, .int x_td, .ref mfv, .int x_sz, .int x_at, .int x_fr, .int x_to, .int x_va, .int x_fk, .int x_fp, .ref mfr, .ref mwt, .int x_wt, .int x_op, .int x_jo, .ref mfg, .ref mpl, .long x_dr, .ref mtm, .ref mfa, .ref mqu, .ref mmo, .ref mwy, .ref mwn, .ref mma, .ref mwi, .ref mnu, .ref mmv])), (mwo, .inl (c_wo, 1875, .inl w_wo)), (mfg, .inl (c_fg, 12, .inl o0_112)), (mnu, .inl (c_nu, 240, .inr (.inl w_nu)))] H := hP
      have hD : va_D A [(o0, .inr (8, [.int x_th, .ref mwo, .ref mim, .ref mhi, .ref mlu, .ref mtp, .int x_td, .ref mfv, .int x_sz, .int x_at, .int x_fr, .int x_to, .int x_va, .int x_fk, .int x_fp, .ref mfr, .ref mwt, .int x_wt, .int x_op, .int x_jo, .ref mfg, .ref mpl, .long x_dr, .ref mtm, .ref mfa, .ref mqu, .ref mmo, .ref mwy, .ref mwn, .ref mma, .ref mwi, .ref mnu, .ref mmv])), (mwo, .inl (c_wo, 1875, .inl w_wo)), (mfg, .inl (c_fg, 12, .inl o0_112)), (mnu, .inl (c_nu, 240, .inr (.inl w_nu)))] := hD
      have hl : lv_has ls 5 [(4, .int y_133), (3, .int y_134), (0, .ref o0), (1, .int a1), (2, .int a2)] := hl
      refine lv_istore_n (lv' := [(3, .int y_209), (4, .int y_133), (0, .ref o0), (1, .int a1), (2, .int a2)]) hx hb dX10_canBe_64 rfl hl (by decide) rfl (fun ls hl => ?_)
      obtain ⟨z_210, e_z_210⟩ : ∃ y : Int32, y = y_133 + 1 := ⟨_, rfl⟩
      refine lv_iinc (v := z_210) (lv' := [(4, .int z_210), (3, .int y_209), (0, .ref o0), (1, .int a1), (2, .int a2)]) hx hb dX10_canBe_65 hl (k := 1) rfl (by rw [e_z_210]; rfl) (by decide) rfl (fun ls hl => ?_)
      obtain ⟨q_z_210, b_z_210⟩ := ti_add (lo := 1) (hi := 12) e_z_210 rfl (by decide : (1 : Int32).toInt = 1) b_y_133 (by decide : (1 : Int) ≤ (1 : Int32).toInt ∧ (1 : Int32).toInt ≤ 1) (by decide)
      refine lv_goto (tgt := 10) hx hb dX10_canBe_68 (by decide) ?_
      exact ih_10_197 (z_210, y_209) _ _ _ ⟨(show (0 : Int) ≤ z_210.toInt ∧ z_210.toInt ≤ 12 from (rg_w b_z_210 (by decide) (by decide))), (show (0 : Int) ≤ y_209.toInt ∧ y_209.toInt ≤ 1 from b_y_209), hP, hD, hS, lv_sub hl [0, 1, 2, 3, 4] rfl⟩ (show (12 - z_210.toInt).toNat < (12 - y_133.toInt).toNat by omega)
    ·
      refine lv_if_eq (tgt := 63) hx hb dX10_canBe_22 (by decide) (fun c_200 => ?_) (fun c_200 => ?_)
      ·
        have n_c_200 : (y_134.toInt : Int) = 0 := c_eq rfl (by decide) c_200
        have b_y_134 : (0 : Int) ≤ y_134.toInt ∧ y_134.toInt ≤ 0 := r_eq1 b_y_134 (by decide : (0 : Int) ≤ (0 : Int32).toInt ∧ (0 : Int32).toInt ≤ 0) n_c_200 (by decide)
        refine lv_iconst (v := 0) hx hb dX10_canBe_63 (by decide) ?_
        exact hj_64_209 (0 : Int32) _ _ _ ⟨(show (0 : Int) ≤ (0 : Int32).toInt ∧ (0 : Int32).toInt ≤ 1 from (rg_w (by decide : (0 : Int) ≤ (0 : Int32).toInt ∧ (0 : Int32).toInt ≤ 0) (by decide) (by decide))), hP, hD, hS, lv_sub hl [0, 1, 2, 3, 4] rfl⟩
      ·
        have n_c_200 : (y_134.toInt : Int) ≠ 0 := c_ne rfl (by decide) c_200
        have b_y_134 : (1 : Int) ≤ y_134.toInt ∧ y_134.toInt ≤ 1 := r_ne1 b_y_134 (by decide : (0 : Int) ≤ (0 : Int32).toInt ∧ (0 : Int32).toInt ≤ 0) n_c_200 (by decide)
        refine lv_aload_n hx hb dX10_canBe_25 rfl (lv_at hl 2 rfl) ?_
        refine lv_iload_n hx hb dX10_canBe_26 rfl (lv_at hl 3 rfl) ?_
        refine lv_iload hx hb dX10_canBe_27 (lv_at hl 0 rfl) ?_
        refine vp_callSi (W.runV (As := [.int a1, .int y_133]) (rest := []) ⟨hx, hb, hml, hown, hts⟩ (kX10_isTold l dC dI o0 x_th mwo mim mhi mlu mtp x_td mfv x_sz x_at x_fr x_to x_va x_fk x_fp mfr mwt x_wt x_op x_jo mfg mpl x_dr mtm mfa mqu mmo mwy mwn mma mwi mnu mmv c_wo c_nu w_wo w_nu ln bs tk lw li a1 y_133 (rg_w b_ln (by decide) (by decide)) b_bs b_tk b_lw b_a1 b_y_133 (hw0) (hw1) (hw2) (hw3) (hw4) (hwz)) (cwV 2 hts gX10_canBe__X10_isTold_V372 rfl rfl rfl hd_yX10_isTold ⟨lel 2 2 rfl, lel 47 47 rfl⟩) ⟨pw_fb, rcv_X10 hK hP (q0 := 0) rfl, (pw_use hP hK hN [0, 1, 3] rfl [0, 2] rfl)⟩ rfl rfl hl.1 rfl (lv_room (Nat.le_of_ble_eq_true rfl)) dX10_canBe_29 ⟨lel 0 0 rfl, lel 0 0 rfl⟩) (fun r_211 h_r_211 => ?_)
        have b_r_211 := h_r_211
        have b_r_211 : (0 : Int) ≤ r_211.toInt ∧ r_211.toInt ≤ 1 := b_r_211
        refine lv_if_eq (tgt := 59) hx hb dX10_canBe_32 (by decide) (fun c_212 => ?_) (fun c_212 => ?_)
        ·
          have n_c_212 : (r_211.toInt : Int) = 0 := c_eq rfl (by decide) c_212
          have b_r_211 : (0 : Int) ≤ r_211.toInt ∧ r_211.toInt ≤ 0 := r_eq1 b_r_211 (by decide : (0 : Int) ≤ (0 : Int32).toInt ∧ (0 : Int32).toInt ≤ 0) n_c_212 (by decide)
          refine lv_iconst (v := 1) hx hb dX10_canBe_59 (by decide) ?_
          refine lv_goto (tgt := 64) hx hb dX10_canBe_60 (by decide) ?_
          exact hj_64_209 (1 : Int32) _ _ _ ⟨(show (0 : Int) ≤ (1 : Int32).toInt ∧ (1 : Int32).toInt ≤ 1 from (rg_w (by decide : (1 : Int) ≤ (1 : Int32).toInt ∧ (1 : Int32).toInt ≤ 1) (by decide) (by decide))), hP, hD, hS, lv_sub hl [0, 1, 2, 3, 4] rfl⟩
        ·
          have n_c_212 : (r_211.toInt : Int) ≠ 0 := c_ne rfl (by decide) c_212
          have b_r_211 : (1 : Int) ≤ r_211.toInt ∧ r_211.toInt ≤ 1 := r_ne1 b_r_211 (by decide : (0 : Int) ≤ (0 : Int32).toInt ∧ (0 : Int32).toInt ≤ 0) n_c_212 (by decide)
          refine lv_aload_n hx hb dX10_canBe_35 rfl (lv_at hl 2 rfl) ?_
          refine va_get (D := (dC, dI)) (ci := 8) (v := .ref mnu) (C := RX10) (T := TX10) (N := 33) hx hb hts iX10_canBe_X10 hown hK hP 0 rfl rfl 31 (by decide) (hts (.fieldLink RX10 71 "LuckyTicketModel" "numbers" "[J") (List.mem_of_getElem? (i := 9) rfl)) (fun _ h9 => h9) rfl dX10_canBe_36 ?_
          refine lv_bipush (v := 60) hx hb dX10_canBe_39 (by decide) ?_
          refine lv_iload_n hx hb dX10_canBe_41 rfl (lv_at hl 3 rfl) ?_
          refine lv_imul hx hb dX10_canBe_42 ?_
          refine lv_topi (fun z_213 e_z_213 => ?_)
          obtain ⟨q_z_213, b_z_213⟩ := ti_mul (lo := 0) (hi := 180) e_z_213 (by decide : (60 : Int32).toInt = 60) rfl (by decide : (60 : Int) ≤ (60 : Int32).toInt ∧ (60 : Int32).toInt ≤ 60) b_a1 (by decide)
          refine lv_iload hx hb dX10_canBe_43 (lv_at hl 0 rfl) ?_
          refine lv_iadd hx hb dX10_canBe_45 ?_
          refine lv_topi (fun z_214 e_z_214 => ?_)
          obtain ⟨q_z_214, b_z_214⟩ := ti_add (lo := 0) (hi := 191) e_z_214 rfl rfl b_z_213 b_y_133 (by decide)
          refine va_lald hx hb hK hP 3 2 rfl rfl (vp_in_b b_z_214 (by decide) (by decide)) dX10_canBe_46 ?_
          refine lv_topl (fun z_215 e_z_215 => ?_)
          refine lv_aload_n hx hb dX10_canBe_47 rfl (lv_at hl 2 rfl) ?_
          refine va_get (D := (dC, dI)) (ci := 8) (v := .ref mfg) (C := RX10) (T := TX10) (N := 33) hx hb hts iX10_canBe_X10 hown hK hP 0 rfl rfl 20 (by decide) (hts (.fieldLink RX10 40 "LuckyTicketModel" "figures" "[I") (List.mem_of_getElem? (i := 10) rfl)) (fun _ h9 => h9) rfl dX10_canBe_48 ?_
          refine lv_iload hx hb dX10_canBe_51 (lv_at hl 0 rfl) ?_
          refine va_iald hx hb hK hP 2 1 rfl rfl (vp_in_b b_y_133 (by decide) (by decide)) dX10_canBe_53 ?_
          refine lv_topi (fun z_216 e_z_216 => ?_)
          have b_z_216 : (0 : Int) ≤ z_216.toInt ∧ z_216.toInt ≤ 15 := rg_at ha_113 (vp_in_b b_y_133 (by decide) (by decide)) e_z_216
          obtain ⟨z_217, e_z_217⟩ : ∃ y : Int64, y = z_216.toInt64 := ⟨_, rfl⟩
          refine lv_i2l (v := z_217) hx hb dX10_canBe_54 e_z_217.symm ?_
          obtain ⟨q_z_217, b_z_217⟩ := ti_i2l e_z_217 b_z_216
          refine W.lcmp hx hb dX10_canBe_55 ?_
          refine lv_if_ne (tgt := 63) hx hb dX10_canBe_56 (by decide) (fun c_218 => ?_) (fun c_218 => ?_)
          ·
            have n_c_218 : (z_215.toInt : Int) ≠ z_217.toInt := g_ne rfl rfl c_218
            refine lv_iconst (v := 0) hx hb dX10_canBe_63 (by decide) ?_
            exact hj_64_209 (0 : Int32) _ _ _ ⟨(show (0 : Int) ≤ (0 : Int32).toInt ∧ (0 : Int32).toInt ≤ 1 from (rg_w (by decide : (0 : Int) ≤ (0 : Int32).toInt ∧ (0 : Int32).toInt ≤ 0) (by decide) (by decide))), hP, hD, hS, lv_sub hl [0, 1, 2, 3, 4] rfl⟩
          ·
            have n_c_218 : (z_215.toInt : Int) = z_217.toInt := g_eq rfl rfl c_218
            have b_z_215 : (0 : Int) ≤ z_215.toInt ∧ z_215.toInt ≤ 15 := r_eq1 (tl_rng z_215) b_z_217 n_c_218 (by decide)
            refine lv_iconst (v := 1) hx hb dX10_canBe_59 (by decide) ?_
            refine lv_goto (tgt := 64) hx hb dX10_canBe_60 (by decide) ?_
            exact hj_64_209 (1 : Int32) _ _ _ ⟨(show (0 : Int) ≤ (1 : Int32).toInt ∧ (1 : Int32).toInt ≤ 1 from (rg_w (by decide : (1 : Int) ≤ (1 : Int32).toInt ∧ (1 : Int32).toInt ≤ 1) (by decide) (by decide))), hP, hD, hS, lv_sub hl [0, 1, 2, 3, 4] rfl⟩
theorem dX10_asksWorn_0 : decode cX10_asksWorn 0 = .ok (.iload_n 1, 1) := by decide +kernel
theorem dX10_asksWorn_1 : decode cX10_asksWorn 1 = .ok (.invokestatic 369, 3) := by decide +kernel
theorem dX10_asksWorn_4 : decode cX10_asksWorn 4 = .ok (.ifCond .eq 7, 3) := by decide +kernel
theorem dX10_asksWorn_7 : decode cX10_asksWorn 7 = .ok (.iload_n 2, 1) := by decide +kernel
theorem dX10_asksWorn_8 : decode cX10_asksWorn 8 = .ok (.ifCond .ne 6, 3) := by decide +kernel
theorem dX10_asksWorn_11 : decode cX10_asksWorn 11 = .ok (.bipush (-2), 2) := by decide +kernel
theorem dX10_asksWorn_13 : decode cX10_asksWorn 13 = .ok (.ireturn, 1) := by decide +kernel
theorem dX10_asksWorn_14 : decode cX10_asksWorn 14 = .ok (.aload_n 0, 1) := by decide +kernel
theorem dX10_asksWorn_15 : decode cX10_asksWorn 15 = .ok (.getfield 65, 3) := by decide +kernel
theorem dX10_asksWorn_18 : decode cX10_asksWorn 18 = .ok (.iload_n 1, 1) := by decide +kernel
theorem dX10_asksWorn_19 : decode cX10_asksWorn 19 = .ok (.iaload, 1) := by decide +kernel
theorem dX10_asksWorn_20 : decode cX10_asksWorn 20 = .ok (.iconst (-1), 1) := by decide +kernel
theorem dX10_asksWorn_21 : decode cX10_asksWorn 21 = .ok (.if_icmp .ne 8, 3) := by decide +kernel
theorem dX10_asksWorn_24 : decode cX10_asksWorn 24 = .ok (.bipush (-6), 2) := by decide +kernel
theorem dX10_asksWorn_26 : decode cX10_asksWorn 26 = .ok (.goto 24, 3) := by decide +kernel
theorem dX10_asksWorn_29 : decode cX10_asksWorn 29 = .ok (.aload_n 0, 1) := by decide +kernel
theorem dX10_asksWorn_30 : decode cX10_asksWorn 30 = .ok (.getfield 65, 3) := by decide +kernel
theorem dX10_asksWorn_33 : decode cX10_asksWorn 33 = .ok (.iload_n 1, 1) := by decide +kernel
theorem dX10_asksWorn_34 : decode cX10_asksWorn 34 = .ok (.iaload, 1) := by decide +kernel
theorem dX10_asksWorn_35 : decode cX10_asksWorn 35 = .ok (.aload_n 0, 1) := by decide +kernel
theorem dX10_asksWorn_36 : decode cX10_asksWorn 36 = .ok (.getfield 9, 3) := by decide +kernel
theorem dX10_asksWorn_39 : decode cX10_asksWorn 39 = .ok (.iconst 0, 1) := by decide +kernel
theorem dX10_asksWorn_40 : decode cX10_asksWorn 40 = .ok (.iaload, 1) := by decide +kernel
theorem dX10_asksWorn_41 : decode cX10_asksWorn 41 = .ok (.if_icmp .eq 8, 3) := by decide +kernel
theorem dX10_asksWorn_44 : decode cX10_asksWorn 44 = .ok (.bipush (-7), 2) := by decide +kernel
theorem dX10_asksWorn_46 : decode cX10_asksWorn 46 = .ok (.goto 4, 3) := by decide +kernel
theorem dX10_asksWorn_49 : decode cX10_asksWorn 49 = .ok (.iconst 0, 1) := by decide +kernel
theorem dX10_asksWorn_50 : decode cX10_asksWorn 50 = .ok (.ireturn, 1) := by decide +kernel
theorem hd_yX10_asksWorn : yX10_asksWorn.cls = RX10 ∧ yX10_asksWorn.cls ≠ "java/lang/invoke/MethodHandle" ∧ yX10_asksWorn.cls ≠ "java/lang/invoke/VarHandle" ∧ (parseMethodDescriptor yX10_asksWorn.desc).map (fun d => d.parameters.length) = some 2 := by decide +kernel
def uX10_asksWorn : List Cond := List.cons (.code yX10_asksWorn cX10_asksWorn 3 (some .int)) (HAppend.hAppend ([.methodLink RX10 369 yX10_isSlot, .static yX10_isSlot, .initialized RX10, .fieldLink RX10 65 "LuckyTicketModel" "many" "[I", .fieldLink RX10 9 "LuckyTicketModel" "world" "[I"] : List Cond) (HAppend.hAppend uX10_isSlot wsX100))
theorem iX10_asksWorn_X10 : ∀ w ∈ wsX100, w ∈ uX10_asksWorn := fun _ h => (List.mem_cons_of_mem _ (List.mem_append_right _ (List.mem_append_right _ h)))
theorem guX10_asksWorn : GU uX10_asksWorn := gu_cons (gu_app (by decide +kernel) (gu_ap guX10_isSlot gws_X10))
theorem gX10_asksWorn__X10_isSlot_S369 : GoodIn uX10_asksWorn (va_wsS RX10 369 yX10_isSlot uX10_isSlot) := gin_S (List.mem_of_getElem? (i := 1) rfl) (List.mem_of_getElem? (i := 2) rfl) (List.mem_of_getElem? (i := 3) rfl) (fun _ h => (List.mem_cons_of_mem _ (List.mem_append_right _ (List.mem_append_left _ h)))) guX10_isSlot
set_option maxHeartbeats 4000000 in
set_option maxRecDepth 100000 in
theorem kX10_asksWorn (l : Launch) (dC : Nat → ClassId) (dI : Nat → Nat → Nat) (o0 : Nat) (x_th : Int32) (mwo : Nat) (mim : Nat) (mhi : Nat) (mlu : Nat) (mtp : Nat) (x_td : Int32) (mfv : Nat) (x_sz : Int32) (x_at : Int32) (x_fr : Int32) (x_to : Int32) (x_va : Int32) (x_fk : Int32) (x_fp : Int32) (mfr : Nat) (mwt : Nat) (x_wt : Int32) (x_op : Int32) (x_jo : Int32) (mfg : Nat) (mpl : Nat) (x_dr : Int64) (mtm : Nat) (mfa : Nat) (mqu : Nat) (mmo : Nat) (mwy : Nat) (mwn : Nat) (mma : Nat) (mwi : Nat) (mnu : Nat) (mmv : Nat) (c_wo : ClassId) (c_ma : ClassId) (w_wo : Nat → Int32) (w_ma : Nat → Int32) (ln : Int32) (bs : Int32) (tk : Int32) (lw : Int32) (li : Int32) (a1 : Int32) (a2 : Int32) (b_ln : (0 : Int) ≤ ln.toInt ∧ ln.toInt ≤ 12) (b_bs : (0 : Int) ≤ bs.toInt ∧ bs.toInt ≤ 16) (b_tk : (0 : Int) ≤ tk.toInt ∧ tk.toInt ≤ 20000) (b_lw : (0 : Int) ≤ lw.toInt ∧ lw.toInt ≤ 9) (b_a2 : (0 : Int) ≤ a2.toInt ∧ a2.toInt ≤ 1) (ha_mma : rg w_ma 4 (-1) 60) (hw0 : w_wo 0 = ln) (hw1 : w_wo 1 = bs) (hw2 : w_wo 2 = tk) (hw3 : w_wo 3 = lw) (hw4 : w_wo 4 = li) (hwz : (ln.toInt = 0 ∧ bs.toInt = 0 ∧ tk.toInt = 0 ∧ lw.toInt = 0) ∨ (1 ≤ ln.toInt ∧ 2 ≤ bs.toInt ∧ 1 ≤ tk.toInt)) : Met l yX10_asksWorn uX10_asksWorn ({ frames := 2, cells := 0, slots := 0, locals := 45 }) (va_Pc [.ref o0, .int a1, .int a2] (pw (dC, dI) vwCl [(o0, .inr (8, [.int x_th, .ref mwo, .ref mim, .ref mhi, .ref mlu, .ref mtp, .int x_td, .ref mfv, .int x_sz, .int x_at, .int x_fr, .int x_to, .int x_va, .int x_fk, .int x_fp, .ref mfr, .ref mwt, .int x_wt, .int x_op, .int x_jo, .ref mfg, .ref mpl, .long x_dr, .ref mtm, .ref mfa, .ref mqu, .ref mmo, .ref mwy, .ref mwn, .ref mma, .ref mwi, .ref mnu, .ref mmv])), (mwo, .inl (c_wo, 1875, .inl w_wo)), (mma, .inl (c_ma, 4, .inl w_ma))] [(c_wo, .int), (c_ma, .int)])) (vp_Si (fun r => ((-7 : Int) ≤ r.toInt ∧ r.toInt ≤ 0) ∧ (r = 0 → ((0 : Int) ≤ a1.toInt ∧ a1.toInt ≤ 3) ∧ (1 ≤ a2.toInt)))) 0 0 (fun _ => False) := by
  refine Met.ofW (cc := cX10_asksWorn) (maxL := 3) (ret := (some .int)) pn_X10 rfl ?_
  intro p e s m args below meth c s₁ B hml hv
  obtain ⟨rfl, hP, hK, hN⟩ := hv
  have hx := B.exec
  have hb := B.bytes
  have hr := B.returns
  have hts := atoms_spec (ws := uX10_asksWorn) B.pre
  have hown : s.vm.findClass RX10 = some m.cls := hown_of B.named rfl
  have hlocks := B.notSynchronized
  have hl := lv_entry ([.ref o0, .int a1, .int a2]) (n := 3) (Nat.le_of_ble_eq_true rfl)
  rw [lg_entry_eq]
  generalize (lg_sl ([.ref o0, .int a1, .int a2]) ++ List.replicate (3 - (lg_sl ([.ref o0, .int a1, .int a2])).length) Slot.unset).toArray = ls at hl ⊢
  have hl : lv_has ls 3 [(0, .ref o0), (1, .int a1), (2, .int a2)] := hl
  refine lv_iload_n hx hb dX10_asksWorn_0 rfl (lv_at hl 1 rfl) ?_
  refine vp_callSi (W.runS (As := [.int a1]) (rest := []) ⟨hx, hb, hml, hown, hts⟩ (kX10_isSlot l dC dI a1 ) (va_cwS 1 hts gX10_asksWorn__X10_isSlot_S369 rfl rfl rfl hd_yX10_isSlot.2 ⟨lel 2 2 rfl, lel 45 45 rfl⟩) ⟨pn_fb, pn_use⟩ rfl rfl hl.1 rfl (lv_room (Nat.le_of_ble_eq_true rfl)) dX10_asksWorn_1 ⟨lel 0 0 rfl, lel 0 0 rfl⟩) (fun r_10 h_r_10 => ?_)
  obtain ⟨b_r_10, nz_r_10⟩ := h_r_10
  have b_r_10 : (0 : Int) ≤ r_10.toInt ∧ r_10.toInt ≤ 1 := b_r_10
  refine lv_if_eq (tgt := 11) hx hb dX10_asksWorn_4 (by decide) (fun c_11 => ?_) (fun c_11 => ?_)
  ·
    have n_c_11 : (r_10.toInt : Int) = 0 := c_eq rfl (by decide) c_11
    have b_r_10 : (0 : Int) ≤ r_10.toInt ∧ r_10.toInt ≤ 0 := r_eq1 b_r_10 (by decide : (0 : Int) ≤ (0 : Int32).toInt ∧ (0 : Int32).toInt ≤ 0) n_c_11 (by decide)
    refine lv_bipush (v := (-2)) hx hb dX10_asksWorn_11 (by decide) ?_
    exact W.iret (v := (-2)) hx hb hr (fun t ht hW => ⟨(-2), rfl, ⟨(rg_w (by decide : (-2 : Int) ≤ ((-2) : Int32).toInt ∧ ((-2) : Int32).toInt ≤ -2) (by decide) (by decide)), (fun h9 => absurd h9 (by decide))⟩, ht⟩) t_nil dX10_asksWorn_13
  ·
    have n_c_11 : (r_10.toInt : Int) ≠ 0 := c_ne rfl (by decide) c_11
    have b_r_10 : (1 : Int) ≤ r_10.toInt ∧ r_10.toInt ≤ 1 := r_ne1 b_r_10 (by decide : (0 : Int) ≤ (0 : Int32).toInt ∧ (0 : Int32).toInt ≤ 0) n_c_11 (by decide)
    obtain ⟨b_a1, g_12⟩ := nz_r_10 c_11
    refine lv_iload_n hx hb dX10_asksWorn_7 rfl (lv_at hl 2 rfl) ?_
    refine lv_if_ne (tgt := 14) hx hb dX10_asksWorn_8 (by decide) (fun c_13 => ?_) (fun c_13 => ?_)
    ·
      have n_c_13 : (a2.toInt : Int) ≠ 0 := c_ne rfl (by decide) c_13
      have b_a2 : (1 : Int) ≤ a2.toInt ∧ a2.toInt ≤ 1 := r_ne1 b_a2 (by decide : (0 : Int) ≤ (0 : Int32).toInt ∧ (0 : Int32).toInt ≤ 0) n_c_13 (by decide)
      refine lv_aload_n hx hb dX10_asksWorn_14 rfl (lv_at hl 0 rfl) ?_
      refine va_get (D := (dC, dI)) (ci := 8) (v := .ref mma) (C := RX10) (T := TX10) (N := 33) hx hb hts iX10_asksWorn_X10 hown hK hP 0 rfl rfl 29 (by decide) (hts (.fieldLink RX10 65 "LuckyTicketModel" "many" "[I") (List.mem_of_getElem? (i := 4) rfl)) (fun _ h9 => h9) rfl dX10_asksWorn_15 ?_
      refine lv_iload_n hx hb dX10_asksWorn_18 rfl (lv_at hl 1 rfl) ?_
      refine va_iald hx hb hK hP 2 1 rfl rfl (vp_in_b b_a1 (by decide) (by decide)) dX10_asksWorn_19 ?_
      refine lv_topi (fun z_14 e_z_14 => ?_)
      have b_z_14 : (-1 : Int) ≤ z_14.toInt ∧ z_14.toInt ≤ 60 := rg_at ha_mma (vp_in_b b_a1 (by decide) (by decide)) e_z_14
      refine lv_iconst (v := (-1)) hx hb dX10_asksWorn_20 (by decide) ?_
      refine lv_icmp_ne (tgt := 29) hx hb dX10_asksWorn_21 (by decide) (fun c_15 => ?_) (fun c_15 => ?_)
      ·
        have n_c_15 : (z_14.toInt : Int) ≠ (-1) := c_ne rfl (by decide) c_15
        have b_z_14 : (0 : Int) ≤ z_14.toInt ∧ z_14.toInt ≤ 60 := r_ne1 b_z_14 (by decide : (-1 : Int) ≤ ((-1) : Int32).toInt ∧ ((-1) : Int32).toInt ≤ -1) n_c_15 (by decide)
        refine lv_aload_n hx hb dX10_asksWorn_29 rfl (lv_at hl 0 rfl) ?_
        refine va_get (D := (dC, dI)) (ci := 8) (v := .ref mma) (C := RX10) (T := TX10) (N := 33) hx hb hts iX10_asksWorn_X10 hown hK hP 0 rfl rfl 29 (by decide) (hts (.fieldLink RX10 65 "LuckyTicketModel" "many" "[I") (List.mem_of_getElem? (i := 4) rfl)) (fun _ h9 => h9) rfl dX10_asksWorn_30 ?_
        refine lv_iload_n hx hb dX10_asksWorn_33 rfl (lv_at hl 1 rfl) ?_
        refine va_iald hx hb hK hP 2 1 rfl rfl (vp_in_b b_a1 (by decide) (by decide)) dX10_asksWorn_34 ?_
        refine lv_topi (fun z_16 e_z_16 => ?_)
        have b_z_16 : (-1 : Int) ≤ z_16.toInt ∧ z_16.toInt ≤ 60 := rg_at ha_mma (vp_in_b b_a1 (by decide) (by decide)) e_z_16
        refine lv_aload_n hx hb dX10_asksWorn_35 rfl (lv_at hl 0 rfl) ?_
        refine va_get (D := (dC, dI)) (ci := 8) (v := .ref mwo) (C := RX10) (T := TX10) (N := 33) hx hb hts iX10_asksWorn_X10 hown hK hP 0 rfl rfl 1 (by decide) (hts (.fieldLink RX10 9 "LuckyTicketModel" "world" "[I") (List.mem_of_getElem? (i := 5) rfl)) (fun _ h9 => h9) rfl dX10_asksWorn_36 ?_
        refine lv_iconst (v := 0) hx hb dX10_asksWorn_39 (by decide) ?_
        refine va_iald hx hb hK hP 1 0 rfl rfl (vp_in_b (by decide : (0 : Int) ≤ (0 : Int32).toInt ∧ (0 : Int32).toInt ≤ 0) (by decide) (by decide)) dX10_asksWorn_40 ?_
        refine lv_topi (fun z_17 e_z_17 => ?_)
        obtain rfl : ln = z_17 := (e_z_17.trans hw0).symm
        refine lv_icmp_eq (tgt := 49) hx hb dX10_asksWorn_41 (by decide) (fun c_18 => ?_) (fun c_18 => ?_)
        ·
          have n_c_18 : (z_16.toInt : Int) = ln.toInt := c_eq rfl rfl c_18
          have b_z_16 : (0 : Int) ≤ z_16.toInt ∧ z_16.toInt ≤ 12 := r_eq1 b_z_16 b_ln n_c_18 (by decide)
          refine lv_iconst (v := 0) hx hb dX10_asksWorn_49 (by decide) ?_
          exact W.iret (v := 0) hx hb hr (fun t ht hW => ⟨0, rfl, ⟨(rg_w (by decide : (0 : Int) ≤ (0 : Int32).toInt ∧ (0 : Int32).toInt ≤ 0) (by decide) (by decide)), (fun _ => ⟨⟨by omega, by omega⟩, (by omega)⟩)⟩, ht⟩) t_nil dX10_asksWorn_50
        ·
          have n_c_18 : (z_16.toInt : Int) ≠ ln.toInt := c_ne rfl rfl c_18
          refine lv_bipush (v := (-7)) hx hb dX10_asksWorn_44 (by decide) ?_
          refine lv_goto (tgt := 50) hx hb dX10_asksWorn_46 (by decide) ?_
          exact W.iret (v := (-7)) hx hb hr (fun t ht hW => ⟨(-7), rfl, ⟨(rg_w (by decide : (-7 : Int) ≤ ((-7) : Int32).toInt ∧ ((-7) : Int32).toInt ≤ -7) (by decide) (by decide)), (fun h9 => absurd h9 (by decide))⟩, ht⟩) t_nil dX10_asksWorn_50
      ·
        have n_c_15 : (z_14.toInt : Int) = (-1) := c_eq rfl (by decide) c_15
        have b_z_14 : (-1 : Int) ≤ z_14.toInt ∧ z_14.toInt ≤ -1 := r_eq1 b_z_14 (by decide : (-1 : Int) ≤ ((-1) : Int32).toInt ∧ ((-1) : Int32).toInt ≤ -1) n_c_15 (by decide)
        refine lv_bipush (v := (-6)) hx hb dX10_asksWorn_24 (by decide) ?_
        refine lv_goto (tgt := 50) hx hb dX10_asksWorn_26 (by decide) ?_
        exact W.iret (v := (-6)) hx hb hr (fun t ht hW => ⟨(-6), rfl, ⟨(rg_w (by decide : (-6 : Int) ≤ ((-6) : Int32).toInt ∧ ((-6) : Int32).toInt ≤ -6) (by decide) (by decide)), (fun h9 => absurd h9 (by decide))⟩, ht⟩) t_nil dX10_asksWorn_50
    ·
      have n_c_13 : (a2.toInt : Int) = 0 := c_eq rfl (by decide) c_13
      have b_a2 : (0 : Int) ≤ a2.toInt ∧ a2.toInt ≤ 0 := r_eq1 b_a2 (by decide : (0 : Int) ≤ (0 : Int32).toInt ∧ (0 : Int32).toInt ≤ 0) n_c_13 (by decide)
      refine lv_bipush (v := (-2)) hx hb dX10_asksWorn_11 (by decide) ?_
      exact W.iret (v := (-2)) hx hb hr (fun t ht hW => ⟨(-2), rfl, ⟨(rg_w (by decide : (-2 : Int) ≤ ((-2) : Int32).toInt ∧ ((-2) : Int32).toInt ≤ -2) (by decide) (by decide)), (fun h9 => absurd h9 (by decide))⟩, ht⟩) t_nil dX10_asksWorn_13
theorem dX10_worn_0 : decode cX10_worn 0 = .ok (.aload_n 0, 1) := by decide +kernel
theorem dX10_worn_1 : decode cX10_worn 1 = .ok (.iload_n 1, 1) := by decide +kernel
theorem dX10_worn_2 : decode cX10_worn 2 = .ok (.aload_n 0, 1) := by decide +kernel
theorem dX10_worn_3 : decode cX10_worn 3 = .ok (.iload_n 2, 1) := by decide +kernel
theorem dX10_worn_4 : decode cX10_worn 4 = .ok (.invokevirtual 89, 3) := by decide +kernel
theorem dX10_worn_7 : decode cX10_worn 7 = .ok (.ifCond .eq 19, 3) := by decide +kernel
theorem dX10_worn_10 : decode cX10_worn 10 = .ok (.iload_n 3, 1) := by decide +kernel
theorem dX10_worn_11 : decode cX10_worn 11 = .ok (.i2l, 1) := by decide +kernel
theorem dX10_worn_12 : decode cX10_worn 12 = .ok (.lconst 0, 1) := by decide +kernel
theorem dX10_worn_13 : decode cX10_worn 13 = .ok (.ldc2_w 375, 3) := by decide +kernel
theorem dX10_worn_16 : decode cX10_worn 16 = .ok (.invokestatic 82, 3) := by decide +kernel
theorem dX10_worn_19 : decode cX10_worn 19 = .ok (.ifCond .eq 7, 3) := by decide +kernel
theorem dX10_worn_22 : decode cX10_worn 22 = .ok (.iconst 1, 1) := by decide +kernel
theorem dX10_worn_23 : decode cX10_worn 23 = .ok (.goto 4, 3) := by decide +kernel
theorem dX10_worn_26 : decode cX10_worn 26 = .ok (.iconst 0, 1) := by decide +kernel
theorem dX10_worn_27 : decode cX10_worn 27 = .ok (.invokevirtual 377, 3) := by decide +kernel
theorem dX10_worn_30 : decode cX10_worn 30 = .ok (.istore 4, 2) := by decide +kernel
theorem dX10_worn_32 : decode cX10_worn 32 = .ok (.iload 4, 2) := by decide +kernel
theorem dX10_worn_34 : decode cX10_worn 34 = .ok (.ifCond .ge 6, 3) := by decide +kernel
theorem dX10_worn_37 : decode cX10_worn 37 = .ok (.iload 4, 2) := by decide +kernel
theorem dX10_worn_39 : decode cX10_worn 39 = .ok (.ireturn, 1) := by decide +kernel
theorem dX10_worn_40 : decode cX10_worn 40 = .ok (.iconst 0, 1) := by decide +kernel
theorem dX10_worn_41 : decode cX10_worn 41 = .ok (.istore 5, 2) := by decide +kernel
theorem dX10_worn_43 : decode cX10_worn 43 = .ok (.iconst 0, 1) := by decide +kernel
theorem dX10_worn_44 : decode cX10_worn 44 = .ok (.istore 6, 2) := by decide +kernel
theorem dX10_worn_46 : decode cX10_worn 46 = .ok (.iconst (-1), 1) := by decide +kernel
theorem dX10_worn_47 : decode cX10_worn 47 = .ok (.istore 7, 2) := by decide +kernel
theorem dX10_worn_49 : decode cX10_worn 49 = .ok (.iconst 0, 1) := by decide +kernel
theorem dX10_worn_50 : decode cX10_worn 50 = .ok (.istore 8, 2) := by decide +kernel
theorem dX10_worn_52 : decode cX10_worn 52 = .ok (.iconst 0, 1) := by decide +kernel
theorem dX10_worn_53 : decode cX10_worn 53 = .ok (.istore 9, 2) := by decide +kernel
theorem dX10_worn_55 : decode cX10_worn 55 = .ok (.iload 9, 2) := by decide +kernel
theorem dX10_worn_57 : decode cX10_worn 57 = .ok (.aload_n 0, 1) := by decide +kernel
theorem dX10_worn_58 : decode cX10_worn 58 = .ok (.getfield 9, 3) := by decide +kernel
theorem dX10_worn_61 : decode cX10_worn 61 = .ok (.iconst 0, 1) := by decide +kernel
theorem dX10_worn_62 : decode cX10_worn 62 = .ok (.iaload, 1) := by decide +kernel
theorem dX10_worn_63 : decode cX10_worn 63 = .ok (.if_icmp .ge 32, 3) := by decide +kernel
theorem dX10_worn_66 : decode cX10_worn 66 = .ok (.iload 8, 2) := by decide +kernel
theorem dX10_worn_68 : decode cX10_worn 68 = .ok (.aload_n 0, 1) := by decide +kernel
theorem dX10_worn_69 : decode cX10_worn 69 = .ok (.iload_n 1, 1) := by decide +kernel
theorem dX10_worn_70 : decode cX10_worn 70 = .ok (.iload 9, 2) := by decide +kernel
theorem dX10_worn_72 : decode cX10_worn 72 = .ok (.invokevirtual 372, 3) := by decide +kernel
theorem dX10_worn_75 : decode cX10_worn 75 = .ok (.ifCond .eq 7, 3) := by decide +kernel
theorem dX10_worn_78 : decode cX10_worn 78 = .ok (.iconst 0, 1) := by decide +kernel
theorem dX10_worn_79 : decode cX10_worn 79 = .ok (.goto 7, 3) := by decide +kernel
theorem dX10_worn_82 : decode cX10_worn 82 = .ok (.iconst 1, 1) := by decide +kernel
theorem dX10_worn_83 : decode cX10_worn 83 = .ok (.iload 9, 2) := by decide +kernel
theorem dX10_worn_85 : decode cX10_worn 85 = .ok (.ishl, 1) := by decide +kernel
theorem dX10_worn_86 : decode cX10_worn 86 = .ok (.ior, 1) := by decide +kernel
theorem dX10_worn_87 : decode cX10_worn 87 = .ok (.istore 8, 2) := by decide +kernel
theorem dX10_worn_89 : decode cX10_worn 89 = .ok (.iinc 9 1, 3) := by decide +kernel
theorem dX10_worn_92 : decode cX10_worn 92 = .ok (.goto (-37), 3) := by decide +kernel
theorem dX10_worn_95 : decode cX10_worn 95 = .ok (.iconst 0, 1) := by decide +kernel
theorem dX10_worn_96 : decode cX10_worn 96 = .ok (.istore 9, 2) := by decide +kernel
theorem dX10_worn_98 : decode cX10_worn 98 = .ok (.iload 9, 2) := by decide +kernel
theorem dX10_worn_100 : decode cX10_worn 100 = .ok (.aload_n 0, 1) := by decide +kernel
theorem dX10_worn_101 : decode cX10_worn 101 = .ok (.getfield 9, 3) := by decide +kernel
theorem dX10_worn_104 : decode cX10_worn 104 = .ok (.iconst 2, 1) := by decide +kernel
theorem dX10_worn_105 : decode cX10_worn 105 = .ok (.iaload, 1) := by decide +kernel
theorem dX10_worn_106 : decode cX10_worn 106 = .ok (.if_icmp .ge 70, 3) := by decide +kernel
theorem dX10_worn_109 : decode cX10_worn 109 = .ok (.aload_n 0, 1) := by decide +kernel
theorem dX10_worn_110 : decode cX10_worn 110 = .ok (.iload_n 1, 1) := by decide +kernel
theorem dX10_worn_111 : decode cX10_worn 111 = .ok (.iload 9, 2) := by decide +kernel
theorem dX10_worn_113 : decode cX10_worn 113 = .ok (.invokevirtual 381, 3) := by decide +kernel
theorem dX10_worn_116 : decode cX10_worn 116 = .ok (.ifCond .ne 6, 3) := by decide +kernel
theorem dX10_worn_119 : decode cX10_worn 119 = .ok (.goto 51, 3) := by decide +kernel
theorem dX10_worn_122 : decode cX10_worn 122 = .ok (.iinc 5 1, 3) := by decide +kernel
theorem dX10_worn_125 : decode cX10_worn 125 = .ok (.iload 6, 2) := by decide +kernel
theorem dX10_worn_127 : decode cX10_worn 127 = .ok (.aload_n 0, 1) := by decide +kernel
theorem dX10_worn_128 : decode cX10_worn 128 = .ok (.iload_n 2, 1) := by decide +kernel
theorem dX10_worn_129 : decode cX10_worn 129 = .ok (.iload 9, 2) := by decide +kernel
theorem dX10_worn_131 : decode cX10_worn 131 = .ok (.invokevirtual 316, 3) := by decide +kernel
theorem dX10_worn_134 : decode cX10_worn 134 = .ok (.ifCond .eq 7, 3) := by decide +kernel
theorem dX10_worn_137 : decode cX10_worn 137 = .ok (.iconst 1, 1) := by decide +kernel
theorem dX10_worn_138 : decode cX10_worn 138 = .ok (.goto 4, 3) := by decide +kernel
theorem dX10_worn_141 : decode cX10_worn 141 = .ok (.iconst 0, 1) := by decide +kernel
theorem dX10_worn_142 : decode cX10_worn 142 = .ok (.iadd, 1) := by decide +kernel
theorem dX10_worn_143 : decode cX10_worn 143 = .ok (.istore 6, 2) := by decide +kernel
theorem dX10_worn_145 : decode cX10_worn 145 = .ok (.iload 7, 2) := by decide +kernel
theorem dX10_worn_147 : decode cX10_worn 147 = .ok (.iconst (-1), 1) := by decide +kernel
theorem dX10_worn_148 : decode cX10_worn 148 = .ok (.if_icmp .ne 18, 3) := by decide +kernel
theorem dX10_worn_151 : decode cX10_worn 151 = .ok (.aload_n 0, 1) := by decide +kernel
theorem dX10_worn_152 : decode cX10_worn 152 = .ok (.iload_n 2, 1) := by decide +kernel
theorem dX10_worn_153 : decode cX10_worn 153 = .ok (.iload 9, 2) := by decide +kernel
theorem dX10_worn_155 : decode cX10_worn 155 = .ok (.invokevirtual 316, 3) := by decide +kernel
theorem dX10_worn_158 : decode cX10_worn 158 = .ok (.ifCond .eq 8, 3) := by decide +kernel
theorem dX10_worn_161 : decode cX10_worn 161 = .ok (.iload 9, 2) := by decide +kernel
theorem dX10_worn_163 : decode cX10_worn 163 = .ok (.goto 5, 3) := by decide +kernel
theorem dX10_worn_166 : decode cX10_worn 166 = .ok (.iload 7, 2) := by decide +kernel
theorem dX10_worn_168 : decode cX10_worn 168 = .ok (.istore 7, 2) := by decide +kernel
theorem dX10_worn_170 : decode cX10_worn 170 = .ok (.iinc 9 1, 3) := by decide +kernel
theorem dX10_worn_173 : decode cX10_worn 173 = .ok (.goto (-75), 3) := by decide +kernel
theorem dX10_worn_176 : decode cX10_worn 176 = .ok (.iload_n 3, 1) := by decide +kernel
theorem dX10_worn_177 : decode cX10_worn 177 = .ok (.ifCond .ne 8, 3) := by decide +kernel
theorem dX10_worn_180 : decode cX10_worn 180 = .ok (.iload 5, 2) := by decide +kernel
theorem dX10_worn_182 : decode cX10_worn 182 = .ok (.goto 25, 3) := by decide +kernel
theorem dX10_worn_185 : decode cX10_worn 185 = .ok (.iload_n 3, 1) := by decide +kernel
theorem dX10_worn_186 : decode cX10_worn 186 = .ok (.iconst 1, 1) := by decide +kernel
theorem dX10_worn_187 : decode cX10_worn 187 = .ok (.if_icmp .ne 8, 3) := by decide +kernel
theorem dX10_worn_190 : decode cX10_worn 190 = .ok (.iload 6, 2) := by decide +kernel
theorem dX10_worn_192 : decode cX10_worn 192 = .ok (.goto 15, 3) := by decide +kernel
theorem dX10_worn_195 : decode cX10_worn 195 = .ok (.iload_n 3, 1) := by decide +kernel
theorem dX10_worn_196 : decode cX10_worn 196 = .ok (.iconst 2, 1) := by decide +kernel
theorem dX10_worn_197 : decode cX10_worn 197 = .ok (.if_icmp .ne 8, 3) := by decide +kernel
theorem dX10_worn_200 : decode cX10_worn 200 = .ok (.iload 7, 2) := by decide +kernel
theorem dX10_worn_202 : decode cX10_worn 202 = .ok (.goto 5, 3) := by decide +kernel
theorem dX10_worn_205 : decode cX10_worn 205 = .ok (.iload 8, 2) := by decide +kernel
theorem dX10_worn_207 : decode cX10_worn 207 = .ok (.ireturn, 1) := by decide +kernel
theorem hd_yX10_worn : yX10_worn.cls = RX10 ∧ yX10_worn.cls ≠ "java/lang/invoke/MethodHandle" ∧ yX10_worn.cls ≠ "java/lang/invoke/VarHandle" ∧ (parseMethodDescriptor yX10_worn.desc).map (fun d => d.parameters.length) = some 3 := by decide +kernel
def uX10_worn : List Cond := List.cons (.code yX10_worn cX10_worn 10 (some .int)) (HAppend.hAppend ([.methodLink RX10 89 yX10_isLaw, .instanceMethod yX10_isLaw, .selects RX10 yX10_isLaw yX10_isLaw, .initialized RX10, .constantLong RX10 375 (3), .methodLink RX10 82 yX10_in, .static yX10_in, .methodLink RX10 377 yX10_asksWorn, .instanceMethod yX10_asksWorn, .selects RX10 yX10_asksWorn yX10_asksWorn, .fieldLink RX10 9 "LuckyTicketModel" "world" "[I", .methodLink RX10 372 yX10_isTold, .instanceMethod yX10_isTold, .selects RX10 yX10_isTold yX10_isTold, .methodLink RX10 381 yX10_canBe, .instanceMethod yX10_canBe, .selects RX10 yX10_canBe yX10_canBe, .methodLink RX10 316 yX10_isLucky, .instanceMethod yX10_isLucky, .selects RX10 yX10_isLucky yX10_isLucky] : List Cond) (HAppend.hAppend uX10_isLaw (HAppend.hAppend uX10_in (HAppend.hAppend uX10_asksWorn (HAppend.hAppend uX10_isTold (HAppend.hAppend uX10_canBe (HAppend.hAppend uX10_isLucky wsX100)))))))
theorem iX10_worn_X10 : ∀ w ∈ wsX100, w ∈ uX10_worn := fun _ h => (List.mem_cons_of_mem _ (List.mem_append_right _ (List.mem_append_right _ (List.mem_append_right _ (List.mem_append_right _ (List.mem_append_right _ (List.mem_append_right _ (List.mem_append_right _ h))))))))
theorem guX10_worn : GU uX10_worn := gu_cons (gu_app (by decide +kernel) (gu_ap guX10_isLaw (gu_ap guX10_in (gu_ap guX10_asksWorn (gu_ap guX10_isTold (gu_ap guX10_canBe (gu_ap guX10_isLucky gws_X10)))))))
theorem gX10_worn__X10_isLaw_V89 : GoodIn uX10_worn (wsV RX10 89 RX10 yX10_isLaw uX10_isLaw) := gin_V (List.mem_of_getElem? (i := 1) rfl) (List.mem_of_getElem? (i := 2) rfl) (List.mem_of_getElem? (i := 3) rfl) (List.mem_of_getElem? (i := 4) rfl) (fun _ h => (List.mem_cons_of_mem _ (List.mem_append_right _ (List.mem_append_left _ h)))) guX10_isLaw
theorem gX10_worn__X10_in_S82 : GoodIn uX10_worn (va_wsS RX10 82 yX10_in uX10_in) := gin_S (List.mem_of_getElem? (i := 6) rfl) (List.mem_of_getElem? (i := 7) rfl) (List.mem_of_getElem? (i := 4) rfl) (fun _ h => (List.mem_cons_of_mem _ (List.mem_append_right _ (List.mem_append_right _ (List.mem_append_left _ h))))) guX10_in
theorem gX10_worn__X10_asksWorn_V377 : GoodIn uX10_worn (wsV RX10 377 RX10 yX10_asksWorn uX10_asksWorn) := gin_V (List.mem_of_getElem? (i := 8) rfl) (List.mem_of_getElem? (i := 9) rfl) (List.mem_of_getElem? (i := 10) rfl) (List.mem_of_getElem? (i := 4) rfl) (fun _ h => (List.mem_cons_of_mem _ (List.mem_append_right _ (List.mem_append_right _ (List.mem_append_right _ (List.mem_append_left _ h)))))) guX10_asksWorn
theorem gX10_worn__X10_isTold_V372 : GoodIn uX10_worn (wsV RX10 372 RX10 yX10_isTold uX10_isTold) := gin_V (List.mem_of_getElem? (i := 12) rfl) (List.mem_of_getElem? (i := 13) rfl) (List.mem_of_getElem? (i := 14) rfl) (List.mem_of_getElem? (i := 4) rfl) (fun _ h => (List.mem_cons_of_mem _ (List.mem_append_right _ (List.mem_append_right _ (List.mem_append_right _ (List.mem_append_right _ (List.mem_append_left _ h))))))) guX10_isTold
theorem gX10_worn__X10_canBe_V381 : GoodIn uX10_worn (wsV RX10 381 RX10 yX10_canBe uX10_canBe) := gin_V (List.mem_of_getElem? (i := 15) rfl) (List.mem_of_getElem? (i := 16) rfl) (List.mem_of_getElem? (i := 17) rfl) (List.mem_of_getElem? (i := 4) rfl) (fun _ h => (List.mem_cons_of_mem _ (List.mem_append_right _ (List.mem_append_right _ (List.mem_append_right _ (List.mem_append_right _ (List.mem_append_right _ (List.mem_append_left _ h)))))))) guX10_canBe
theorem gX10_worn__X10_isLucky_V316 : GoodIn uX10_worn (wsV RX10 316 RX10 yX10_isLucky uX10_isLucky) := gin_V (List.mem_of_getElem? (i := 18) rfl) (List.mem_of_getElem? (i := 19) rfl) (List.mem_of_getElem? (i := 20) rfl) (List.mem_of_getElem? (i := 4) rfl) (fun _ h => (List.mem_cons_of_mem _ (List.mem_append_right _ (List.mem_append_right _ (List.mem_append_right _ (List.mem_append_right _ (List.mem_append_right _ (List.mem_append_right _ (List.mem_append_left _ h))))))))) guX10_isLucky
set_option maxHeartbeats 4000000 in
set_option maxRecDepth 100000 in
theorem kX10_worn (l : Launch) (dC : Nat → ClassId) (dI : Nat → Nat → Nat) (o0 : Nat) (x_th : Int32) (mwo : Nat) (mim : Nat) (mhi : Nat) (mlu : Nat) (mtp : Nat) (x_td : Int32) (mfv : Nat) (x_sz : Int32) (x_at : Int32) (x_fr : Int32) (x_to : Int32) (x_va : Int32) (x_fk : Int32) (x_fp : Int32) (mfr : Nat) (mwt : Nat) (x_wt : Int32) (x_op : Int32) (x_jo : Int32) (mfg : Nat) (mpl : Nat) (x_dr : Int64) (mtm : Nat) (mfa : Nat) (mqu : Nat) (mmo : Nat) (mwy : Nat) (mwn : Nat) (mma : Nat) (mwi : Nat) (mnu : Nat) (mmv : Nat) (c_wo : ClassId) (c_lu : ClassId) (c_fg : ClassId) (c_nu : ClassId) (c_ma : ClassId) (w_wo : Nat → Int32) (w_lu : Nat → Int32) (w_fg : Nat → Int32) (w_nu : Nat → Int64) (w_ma : Nat → Int32) (ln : Int32) (bs : Int32) (tk : Int32) (lw : Int32) (li : Int32) (a1 : Int32) (a2 : Int32) (a3 : Int32) (sz : Nat) (b_ln : (0 : Int) ≤ ln.toInt ∧ ln.toInt ≤ 12) (b_bs : (0 : Int) ≤ bs.toInt ∧ bs.toInt ≤ 16) (b_tk : (0 : Int) ≤ tk.toInt ∧ tk.toInt ≤ 20000) (b_lw : (0 : Int) ≤ lw.toInt ∧ lw.toInt ≤ 9) (ha_mfg : rg w_fg 12 0 15) (ha_mma : rg w_ma 4 (-1) 60) (hw0 : w_wo 0 = ln) (hw1 : w_wo 1 = bs) (hw2 : w_wo 2 = tk) (hw3 : w_wo 3 = lw) (hw4 : w_wo 4 = li) (hwz : (ln.toInt = 0 ∧ bs.toInt = 0 ∧ tk.toInt = 0 ∧ lw.toInt = 0) ∨ (1 ≤ ln.toInt ∧ 2 ≤ bs.toInt ∧ 1 ≤ tk.toInt)) : Met l yX10_worn uX10_worn ({ frames := 3, cells := 0, slots := 0, locals := 71 }) (va_Pc [.ref o0, .int a1, .int a2, .int a3] (hw (dC, dI) vwCl [(o0, .inr (8, [.int x_th, .ref mwo, .ref mim, .ref mhi, .ref mlu, .ref mtp, .int x_td, .ref mfv, .int x_sz, .int x_at, .int x_fr, .int x_to, .int x_va, .int x_fk, .int x_fp, .ref mfr, .ref mwt, .int x_wt, .int x_op, .int x_jo, .ref mfg, .ref mpl, .long x_dr, .ref mtm, .ref mfa, .ref mqu, .ref mmo, .ref mwy, .ref mwn, .ref mma, .ref mwi, .ref mnu, .ref mmv])), (mwo, .inl (c_wo, 1875, .inl w_wo)), (mlu, .inl (c_lu, 20000, .inl w_lu)), (mfg, .inl (c_fg, 12, .inl w_fg)), (mnu, .inl (c_nu, 240, .inr (.inl w_nu))), (mma, .inl (c_ma, 4, .inl w_ma))] [(c_wo, .int), (c_lu, .int), (c_fg, .int), (c_nu, .long), (c_ma, .int)] sz)) (va_Qi (fun (r : Int32) (_ : Unit) => True) (fun (_ : Unit) t => ∃ (o0_ : Nat → Int32), (rg o0_ 12 0 15) ∧ va_P (dC, dI) vwCl [(o0, .inr (8, [.int x_th, .ref mwo, .ref mim, .ref mhi, .ref mlu, .ref mtp, .int x_td, .ref mfv, .int x_sz, .int x_at, .int x_fr, .int x_to, .int x_va, .int x_fk, .int x_fp, .ref mfr, .ref mwt, .int x_wt, .int x_op, .int x_jo, .ref mfg, .ref mpl, .long x_dr, .ref mtm, .ref mfa, .ref mqu, .ref mmo, .ref mwy, .ref mwn, .ref mma, .ref mwi, .ref mnu, .ref mmv])), (mwo, .inl (c_wo, 1875, .inl w_wo)), (mlu, .inl (c_lu, 20000, .inl w_lu)), (mfg, .inl (c_fg, 12, .inl o0_)), (mnu, .inl (c_nu, 240, .inr (.inl w_nu))), (mma, .inl (c_ma, 4, .inl w_ma))] t.heap ∧ va_K (dC, dI) vwCl [(c_wo, .int), (c_lu, .int), (c_fg, .int), (c_nu, .long), (c_ma, .int)] t ∧ va_D (va_A [(o0, .inr (8, [.int x_th, .ref mwo, .ref mim, .ref mhi, .ref mlu, .ref mtp, .int x_td, .ref mfv, .int x_sz, .int x_at, .int x_fr, .int x_to, .int x_va, .int x_fk, .int x_fp, .ref mfr, .ref mwt, .int x_wt, .int x_op, .int x_jo, .ref mfg, .ref mpl, .long x_dr, .ref mtm, .ref mfa, .ref mqu, .ref mmo, .ref mwy, .ref mwn, .ref mma, .ref mwi, .ref mnu, .ref mmv])), (mwo, .inl (c_wo, 1875, .inl w_wo)), (mlu, .inl (c_lu, 20000, .inl w_lu)), (mfg, .inl (c_fg, 12, .inl w_fg)), (mnu, .inl (c_nu, 240, .inr (.inl w_nu))), (mma, .inl (c_ma, 4, .inl w_ma))] sz) [(o0, .inr (8, [.int x_th, .ref mwo, .ref mim, .ref mhi, .ref mlu, .ref mtp, .int x_td, .ref mfv, .int x_sz, .int x_at, .int x_fr, .int x_to, .int x_va, .int x_fk, .int x_fp, .ref mfr, .ref mwt, .int x_wt, .int x_op, .int x_jo, .ref mfg, .ref mpl, .long x_dr, .ref mtm, .ref mfa, .ref mqu, .ref mmo, .ref mwy, .ref mwn, .ref mma, .ref mwi, .ref mnu, .ref mmv])), (mwo, .inl (c_wo, 1875, .inl w_wo)), (mlu, .inl (c_lu, 20000, .inl w_lu)), (mfg, .inl (c_fg, 12, .inl o0_)), (mnu, .inl (c_nu, 240, .inr (.inl w_nu))), (mma, .inl (c_ma, 4, .inl w_ma))]) (va_A [(o0, .inr (8, [.int x_th, .ref mwo, .ref mim, .ref mhi, .ref mlu, .ref mtp, .int x_td, .ref mfv, .int x_sz, .int x_at, .int x_fr, .int x_to, .int x_va, .int x_fk, .int x_fp, .ref mfr, .ref mwt, .int x_wt, .int x_op, .int x_jo, .ref mfg, .ref mpl, .long x_dr, .ref mtm, .ref mfa, .ref mqu, .ref mmo, .ref mwy, .ref mwn, .ref mma, .ref mwi, .ref mnu, .ref mmv])), (mwo, .inl (c_wo, 1875, .inl w_wo)), (mlu, .inl (c_lu, 20000, .inl w_lu)), (mfg, .inl (c_fg, 12, .inl w_fg)), (mnu, .inl (c_nu, 240, .inr (.inl w_nu))), (mma, .inl (c_ma, 4, .inl w_ma))] sz)) 0 0 (va_A [(o0, .inr (8, [.int x_th, .ref mwo, .ref mim, .ref mhi, .ref mlu, .ref mtp, .int x_td, .ref mfv, .int x_sz, .int x_at, .int x_fr, .int x_to, .int x_va, .int x_fk, .int x_fp, .ref mfr, .ref mwt, .int x_wt, .int x_op, .int x_jo, .ref mfg, .ref mpl, .long x_dr, .ref mtm, .ref mfa, .ref mqu, .ref mmo, .ref mwy, .ref mwn, .ref mma, .ref mwi, .ref mnu, .ref mmv])), (mwo, .inl (c_wo, 1875, .inl w_wo)), (mlu, .inl (c_lu, 20000, .inl w_lu)), (mfg, .inl (c_fg, 12, .inl w_fg)), (mnu, .inl (c_nu, 240, .inr (.inl w_nu))), (mma, .inl (c_ma, 4, .inl w_ma))] sz) := by
  refine Met.ofW (cc := cX10_worn) (maxL := 10) (ret := (some .int)) pn_X10 rfl ?_
  intro p e s m args below meth c s₁ B hml hv
  obtain ⟨rfl, hsz, hP, hK, hD0, hN⟩ := hv
  have hx := B.exec
  have hb := B.bytes
  have hr := B.returns
  have hts := atoms_spec (ws := uX10_worn) B.pre
  have hown : s.vm.findClass RX10 = some m.cls := hown_of B.named rfl
  have hlocks := B.notSynchronized
  subst hsz
  have hD := hD0.self (sz := s.heap.size)
  generalize hAe : va_A [(o0, .inr (8, [.int x_th, .ref mwo, .ref mim, .ref mhi, .ref mlu, .ref mtp, .int x_td, .ref mfv, .int x_sz, .int x_at, .int x_fr, .int x_to, .int x_va, .int x_fk, .int x_fp, .ref mfr, .ref mwt, .int x_wt, .int x_op, .int x_jo, .ref mfg, .ref mpl, .long x_dr, .ref mtm, .ref mfa, .ref mqu, .ref mmo, .ref mwy, .ref mwn, .ref mma, .ref mwi, .ref mnu, .ref mmv])), (mwo, .inl (c_wo, 1875, .inl w_wo)), (mlu, .inl (c_lu, 20000, .inl w_lu)), (mfg, .inl (c_fg, 12, .inl w_fg)), (mnu, .inl (c_nu, 240, .inr (.inl w_nu))), (mma, .inl (c_ma, 4, .inl w_ma))] s.heap.size = A at hD ⊢
  have hA : ∀ q : Nat, s.heap.size ≤ q → A q := fun q h => by rw [← hAe]; exact Or.inr h
  have hS : va_S A s.heap s.heap [] := va_S.rf
  have hP : va_P (dC, dI) vwCl [(o0, .inr (8, [.int x_th, .ref mwo, .ref mim, .ref mhi, .ref mlu, .ref mtp, .int x_td, .ref mfv, .int x_sz, .int x_at, .int x_fr, .int x_to, .int x_va, .int x_fk, .int x_fp, .ref mfr, .ref mwt, .int x_wt, .int x_op, .int x_jo, .ref mfg, .ref mpl, .long x_dr, .ref mtm, .ref mfa, .ref mqu, .ref mmo, .ref mwy, .ref mwn, .ref mma, .ref mwi, .ref mnu, .ref mmv])), (mwo, .inl (c_wo, 1875, .inl w_wo)), (mlu, .inl (c_lu, 20000, .inl w_lu)), (mfg, .inl (c_fg, 12, .inl w_fg)), (mnu, .inl (c_nu, 240, .inr (.inl w_nu))), (mma, .inl (c_ma, 4, .inl w_ma))] s.heap := hP
  have hl := lv_entry ([.ref o0, .int a1, .int a2, .int a3]) (n := 10) (Nat.le_of_ble_eq_true rfl)
  rw [lg_entry_eq]
  generalize (lg_sl ([.ref o0, .int a1, .int a2, .int a3]) ++ List.replicate (10 - (lg_sl ([.ref o0, .int a1, .int a2, .int a3])).length) Slot.unset).toArray = ls at hl ⊢
  have hl : lv_has ls 10 [(0, .ref o0), (1, .int a1), (2, .int a2), (3, .int a3)] := hl
  refine lv_aload_n hx hb dX10_worn_0 rfl (lv_at hl 0 rfl) ?_
  refine lv_iload_n hx hb dX10_worn_1 rfl (lv_at hl 1 rfl) ?_
  refine lv_aload_n hx hb dX10_worn_2 rfl (lv_at hl 0 rfl) ?_
  refine lv_iload_n hx hb dX10_worn_3 rfl (lv_at hl 2 rfl) ?_
  refine vp_callSi (W.runV (As := [.int a2]) (rest := [.int a1, .ref o0]) ⟨hx, hb, hml, hown, hts⟩ (kX10_isLaw l dC dI o0 x_th mwo mim mhi mlu mtp x_td mfv x_sz x_at x_fr x_to x_va x_fk x_fp mfr mwt x_wt x_op x_jo mfg mpl x_dr mtm mfa mqu mmo mwy mwn mma mwi mnu mmv c_wo w_wo ln bs tk lw li a2 b_ln b_bs b_tk b_lw (hw0) (hw1) (hw2) (hw3) (hw4) (hwz)) (cwV 1 hts gX10_worn__X10_isLaw_V89 rfl rfl rfl hd_yX10_isLaw ⟨lel 2 3 rfl, lel 46 71 rfl⟩) ⟨pw_fb, rcv_X10 hK hP (q0 := 0) rfl, (pw_use hP hK hN [0, 1] rfl [0] rfl)⟩ rfl rfl hl.1 rfl (lv_room (Nat.le_of_ble_eq_true rfl)) dX10_worn_4 ⟨lel 0 0 rfl, lel 0 0 rfl⟩) (fun r_5779 h_r_5779 => ?_)
  obtain ⟨b_r_5779, nz_r_5779⟩ := h_r_5779
  have b_r_5779 : (0 : Int) ≤ r_5779.toInt ∧ r_5779.toInt ≤ 1 := b_r_5779
  refine cutW (σ := Int32) (pc2 := 27) (st2 := fun v => [.int v, .int a1, .ref o0]) (cells2 := 0) (slots2 := 0) (fun v H locs ls => ((0 : Int) ≤ v.toInt ∧ v.toInt ≤ 1) ∧ va_P (dC, dI) vwCl [(o0, .inr (8, [.int x_th, .ref mwo, .ref mim, .ref mhi, .ref mlu, .ref mtp, .int x_td, .ref mfv, .int x_sz, .int x_at, .int x_fr, .int x_to, .int x_va, .int x_fk, .int x_fp, .ref mfr, .ref mwt, .int x_wt, .int x_op, .int x_jo, .ref mfg, .ref mpl, .long x_dr, .ref mtm, .ref mfa, .ref mqu, .ref mmo, .ref mwy, .ref mwn, .ref mma, .ref mwi, .ref mnu, .ref mmv])), (mwo, .inl (c_wo, 1875, .inl w_wo)), (mlu, .inl (c_lu, 20000, .inl w_lu)), (mfg, .inl (c_fg, 12, .inl w_fg)), (mnu, .inl (c_nu, 240, .inr (.inl w_nu))), (mma, .inl (c_ma, 4, .inl w_ma))] H ∧ va_D A [(o0, .inr (8, [.int x_th, .ref mwo, .ref mim, .ref mhi, .ref mlu, .ref mtp, .int x_td, .ref mfv, .int x_sz, .int x_at, .int x_fr, .int x_to, .int x_va, .int x_fk, .int x_fp, .ref mfr, .ref mwt, .int x_wt, .int x_op, .int x_jo, .ref mfg, .ref mpl, .long x_dr, .ref mtm, .ref mfa, .ref mqu, .ref mmo, .ref mwy, .ref mwn, .ref mma, .ref mwi, .ref mnu, .ref mmv])), (mwo, .inl (c_wo, 1875, .inl w_wo)), (mlu, .inl (c_lu, 20000, .inl w_lu)), (mfg, .inl (c_fg, 12, .inl w_fg)), (mnu, .inl (c_nu, 240, .inr (.inl w_nu))), (mma, .inl (c_ma, 4, .inl w_ma))] ∧ va_S A s.heap H locs ∧ lv_has ls 10 [(0, .ref o0), (1, .int a1), (2, .int a2), (3, .int a3)]) (fun v H locs ls hI => ?_) (fun hj_27_5786 => ?_)
  ·
    obtain ⟨y_5786, rfl⟩ : ∃ z, z = v := ⟨_, rfl⟩
    obtain ⟨b_y_5786, hP, hD, hS, hl⟩ := hI
    have b_y_5786 : (0 : Int) ≤ y_5786.toInt ∧ y_5786.toInt ≤ 1 := b_y_5786
    have hP : va_P (dC, dI) vwCl [(o0, .inr (8, [.int x_th, .ref mwo, .ref mim, .ref mhi, .ref mlu, .ref mtp, .int x_td, .ref mfv, .int x_sz, .int x_at, .int x_fr, .int x_to, .int x_va, .int x_fk, .int x_fp, .ref mfr, .ref mwt, .int x_wt, .int x_op, .int x_jo, .ref mfg, .ref mpl, .long x_dr, .ref mtm, .ref mfa, .ref mqu, .ref mmo, .ref mwy, .ref mwn, .ref mma, .ref mwi, .ref mnu, .ref mmv])), (mwo, .inl (c_wo, 1875, .inl w_wo)), (mlu, .inl (c_lu, 20000, .inl w_lu)), (mfg, .inl (c_fg, 12, .inl w_fg)), (mnu, .inl (c_nu, 240, .inr (.inl w_nu))), (mma, .inl (c_ma, 4, .inl w_ma))] H := hP
    have hD : va_D A [(o0, .inr (8, [.int x_th, .ref mwo, .ref mim, .ref mhi, .ref mlu, .ref mtp, .int x_td, .ref mfv, .int x_sz, .int x_at, .int x_fr, .int x_to, .int x_va, .int x_fk, .int x_fp, .ref mfr, .ref mwt, .int x_wt, .int x_op, .int x_jo, .ref mfg, .ref mpl, .long x_dr, .ref mtm, .ref mfa, .ref mqu, .ref mmo, .ref mwy, .ref mwn, .ref mma, .ref mwi, .ref mnu, .ref mmv])), (mwo, .inl (c_wo, 1875, .inl w_wo)), (mlu, .inl (c_lu, 20000, .inl w_lu)), (mfg, .inl (c_fg, 12, .inl w_fg)), (mnu, .inl (c_nu, 240, .inr (.inl w_nu))), (mma, .inl (c_ma, 4, .inl w_ma))] := hD
    have hl : lv_has ls 10 [(0, .ref o0), (1, .int a1), (2, .int a2), (3, .int a3)] := hl
    refine vp_callSi (W.runV (As := [.int a1, .int y_5786]) (rest := []) ⟨hx, hb, hml, hown, hts⟩ (kX10_asksWorn l dC dI o0 x_th mwo mim mhi mlu mtp x_td mfv x_sz x_at x_fr x_to x_va x_fk x_fp mfr mwt x_wt x_op x_jo mfg mpl x_dr mtm mfa mqu mmo mwy mwn mma mwi mnu mmv c_wo c_ma w_wo w_ma ln bs tk lw li a1 y_5786 b_ln b_bs b_tk b_lw b_y_5786 ha_mma (hw0) (hw1) (hw2) (hw3) (hw4) (hwz)) (cwV 2 hts gX10_worn__X10_asksWorn_V377 rfl rfl rfl hd_yX10_asksWorn ⟨lel 3 3 rfl, lel 67 71 rfl⟩) ⟨pw_fb, rcv_X10 hK hP (q0 := 0) rfl, (pw_use hP hK hN [0, 1, 5] rfl [0, 4] rfl)⟩ rfl rfl hl.1 rfl (lv_room (Nat.le_of_ble_eq_true rfl)) dX10_worn_27 ⟨lel 0 0 rfl, lel 0 0 rfl⟩) (fun r_5787 h_r_5787 => ?_)
    obtain ⟨b_r_5787, zz_r_5787⟩ := h_r_5787
    have b_r_5787 : (-7 : Int) ≤ r_5787.toInt ∧ r_5787.toInt ≤ 0 := b_r_5787
    refine lv_istore (lv' := [(4, .int r_5787), (0, .ref o0), (1, .int a1), (2, .int a2), (3, .int a3)]) hx hb dX10_worn_30 hl (by decide) rfl (fun ls hl => ?_)
    refine lv_iload hx hb dX10_worn_32 (lv_at hl 0 rfl) ?_
    refine lv_if_ge (tgt := 40) hx hb dX10_worn_34 (by decide) (fun c_5788 => ?_) (fun c_5788 => ?_)
    ·
      have n_c_5788 : (0 : Int) ≤ r_5787.toInt := c_ge rfl (by decide) c_5788
      have b_r_5787 : (0 : Int) ≤ r_5787.toInt ∧ r_5787.toInt ≤ 0 := r_le2 (by decide : (0 : Int) ≤ (0 : Int32).toInt ∧ (0 : Int32).toInt ≤ 0) b_r_5787 n_c_5788 (by decide)
      obtain ⟨b_a1, g_5789⟩ := zz_r_5787 (ti_z b_r_5787)
      refine lv_iconst (v := 0) hx hb dX10_worn_40 (by decide) ?_
      refine lv_istore (lv' := [(5, .int 0), (4, .int r_5787), (0, .ref o0), (1, .int a1), (2, .int a2), (3, .int a3)]) hx hb dX10_worn_41 hl (by decide) rfl (fun ls hl => ?_)
      refine lv_iconst (v := 0) hx hb dX10_worn_43 (by decide) ?_
      refine lv_istore (lv' := [(6, .int 0), (5, .int 0), (4, .int r_5787), (0, .ref o0), (1, .int a1), (2, .int a2), (3, .int a3)]) hx hb dX10_worn_44 hl (by decide) rfl (fun ls hl => ?_)
      refine lv_iconst (v := (-1)) hx hb dX10_worn_46 (by decide) ?_
      refine lv_istore (lv' := [(7, .int (-1)), (6, .int 0), (5, .int 0), (4, .int r_5787), (0, .ref o0), (1, .int a1), (2, .int a2), (3, .int a3)]) hx hb dX10_worn_47 hl (by decide) rfl (fun ls hl => ?_)
      refine lv_iconst (v := 0) hx hb dX10_worn_49 (by decide) ?_
      refine lv_istore (lv' := [(8, .int 0), (7, .int (-1)), (6, .int 0), (5, .int 0), (4, .int r_5787), (0, .ref o0), (1, .int a1), (2, .int a2), (3, .int a3)]) hx hb dX10_worn_50 hl (by decide) rfl (fun ls hl => ?_)
      refine lv_iconst (v := 0) hx hb dX10_worn_52 (by decide) ?_
      refine lv_istore (lv' := [(9, .int 0), (8, .int 0), (7, .int (-1)), (6, .int 0), (5, .int 0), (4, .int r_5787), (0, .ref o0), (1, .int a1), (2, .int a2), (3, .int a3)]) hx hb dX10_worn_53 hl (by decide) rfl (fun ls hl => ?_)
      refine loopW (σ := Int32 × Int32) (fun v => (12 - v.1.toInt).toNat) (fun v H locs ls => ((0 : Int) ≤ v.1.toInt ∧ v.1.toInt ≤ 12) ∧ va_P (dC, dI) vwCl [(o0, .inr (8, [.int x_th, .ref mwo, .ref mim, .ref mhi, .ref mlu, .ref mtp, .int x_td, .ref mfv, .int x_sz, .int x_at, .int x_fr, .int x_to, .int x_va, .int x_fk, .int x_fp, .ref mfr, .ref mwt, .int x_wt, .int x_op, .int x_jo, .ref mfg, .ref mpl, .long x_dr, .ref mtm, .ref mfa, .ref mqu, .ref mmo, .ref mwy, .ref mwn, .ref mma, .ref mwi, .ref mnu, .ref mmv])), (mwo, .inl (c_wo, 1875, .inl w_wo)), (mlu, .inl (c_lu, 20000, .inl w_lu)), (mfg, .inl (c_fg, 12, .inl w_fg)), (mnu, .inl (c_nu, 240, .inr (.inl w_nu))), (mma, .inl (c_ma, 4, .inl w_ma))] H ∧ va_D A [(o0, .inr (8, [.int x_th, .ref mwo, .ref mim, .ref mhi, .ref mlu, .ref mtp, .int x_td, .ref mfv, .int x_sz, .int x_at, .int x_fr, .int x_to, .int x_va, .int x_fk, .int x_fp, .ref mfr, .ref mwt, .int x_wt, .int x_op, .int x_jo, .ref mfg, .ref mpl, .long x_dr, .ref mtm, .ref mfa, .ref mqu, .ref mmo, .ref mwy, .ref mwn, .ref mma, .ref mwi, .ref mnu, .ref mmv])), (mwo, .inl (c_wo, 1875, .inl w_wo)), (mlu, .inl (c_lu, 20000, .inl w_lu)), (mfg, .inl (c_fg, 12, .inl w_fg)), (mnu, .inl (c_nu, 240, .inr (.inl w_nu))), (mma, .inl (c_ma, 4, .inl w_ma))] ∧ va_S A s.heap H locs ∧ lv_has ls 10 [(9, .int v.1), (8, .int v.2), (7, .int (-1)), (6, .int 0), (5, .int 0), (4, .int r_5787), (0, .ref o0), (1, .int a1), (2, .int a2), (3, .int a3)]) (fun v H locs ls hI ih_55_10399 => ?_) ((0 : Int32), (0 : Int32)) ⟨(show (0 : Int) ≤ (0 : Int32).toInt ∧ (0 : Int32).toInt ≤ 12 from (rg_w (by decide : (0 : Int) ≤ (0 : Int32).toInt ∧ (0 : Int32).toInt ≤ 0) (by decide) (by decide))), hP, hD, hS, lv_sub hl [0, 1, 2, 3, 4, 5, 6, 7, 8, 9] rfl⟩
      obtain ⟨y_6942, y_6943⟩ := v
      obtain ⟨b_y_6942, hP, hD, hS, hl⟩ := hI
      have b_y_6942 : (0 : Int) ≤ y_6942.toInt ∧ y_6942.toInt ≤ 12 := b_y_6942
      have hP : va_P (dC, dI) vwCl [(o0, .inr (8, [.int x_th, .ref mwo, .ref mim, .ref mhi, .ref mlu, .ref mtp, .int x_td, .ref mfv, .int x_sz, .int x_at, .int x_fr, .int x_to, .int x_va, .int x_fk, .int x_fp, .ref mfr, .ref mwt, .int x_wt, .int x_op, .int x_jo, .ref mfg, .ref mpl, .long x_dr, .ref mtm, .ref mfa, .ref mqu, .ref mmo, .ref mwy, .ref mwn, .ref mma, .ref mwi, .ref mnu, .ref mmv])), (mwo, .inl (c_wo, 1875, .inl w_wo)), (mlu, .inl (c_lu, 20000, .inl w_lu)), (mfg, .inl (c_fg, 12, .inl w_fg)), (mnu, .inl (c_nu, 240, .inr (.inl w_nu))), (mma, .inl (c_ma, 4, .inl w_ma))] H := hP
      have hD : va_D A [(o0, .inr (8, [.int x_th, .ref mwo, .ref mim, .ref mhi, .ref mlu, .ref mtp, .int x_td, .ref mfv, .int x_sz, .int x_at, .int x_fr, .int x_to, .int x_va, .int x_fk, .int x_fp, .ref mfr, .ref mwt, .int x_wt, .int x_op, .int x_jo, .ref mfg, .ref mpl, .long x_dr, .ref mtm, .ref mfa, .ref mqu, .ref mmo, .ref mwy, .ref mwn, .ref mma, .ref mwi, .ref mnu, .ref mmv])), (mwo, .inl (c_wo, 1875, .inl w_wo)), (mlu, .inl (c_lu, 20000, .inl w_lu)), (mfg, .inl (c_fg, 12, .inl w_fg)), (mnu, .inl (c_nu, 240, .inr (.inl w_nu))), (mma, .inl (c_ma, 4, .inl w_ma))] := hD
      have hl : lv_has ls 10 [(9, .int y_6942), (8, .int y_6943), (7, .int (-1)), (6, .int 0), (5, .int 0), (4, .int r_5787), (0, .ref o0), (1, .int a1), (2, .int a2), (3, .int a3)] := hl
      refine lv_iload hx hb dX10_worn_55 (lv_at hl 0 rfl) ?_
      refine lv_aload_n hx hb dX10_worn_57 rfl (lv_at hl 6 rfl) ?_
      refine va_get (D := (dC, dI)) (ci := 8) (v := .ref mwo) (C := RX10) (T := TX10) (N := 33) hx hb hts iX10_worn_X10 hown hK hP 0 rfl rfl 1 (by decide) (hts (.fieldLink RX10 9 "LuckyTicketModel" "world" "[I") (List.mem_of_getElem? (i := 11) rfl)) (fun _ h9 => h9) rfl dX10_worn_58 ?_
      refine lv_iconst (v := 0) hx hb dX10_worn_61 (by decide) ?_
      refine va_iald hx hb hK hP 1 0 rfl rfl (vp_in_b (by decide : (0 : Int) ≤ (0 : Int32).toInt ∧ (0 : Int32).toInt ≤ 0) (by decide) (by decide)) dX10_worn_62 ?_
      refine lv_topi (fun z_10400 e_z_10400 => ?_)
      obtain rfl : ln = z_10400 := (e_z_10400.trans hw0).symm
      refine lv_icmp_ge (tgt := 95) hx hb dX10_worn_63 (by decide) (fun c_10401 => ?_) (fun c_10401 => ?_)
      ·
        have n_c_10401 : (ln.toInt : Int) ≤ y_6942.toInt := c_ge rfl rfl c_10401
        refine lv_iconst (v := 0) hx hb dX10_worn_95 (by decide) ?_
        refine lv_istore (lv' := [(9, .int 0), (8, .int y_6943), (7, .int (-1)), (6, .int 0), (5, .int 0), (4, .int r_5787), (0, .ref o0), (1, .int a1), (2, .int a2), (3, .int a3)]) hx hb dX10_worn_96 hl (by decide) rfl (fun ls hl => ?_)
        refine loopW (σ := Int32 × Int32 × Int32 × Int32 × (Nat → Int32)) (fun v => (20000 - v.1.toInt).toNat) (fun v H locs ls => ((0 : Int) ≤ v.1.toInt ∧ v.1.toInt ≤ 20000) ∧ ((-1 : Int) ≤ v.2.1.toInt ∧ v.2.1.toInt ≤ 19999) ∧ (rg v.2.2.2.2 12 0 15) ∧ va_P (dC, dI) vwCl [(o0, .inr (8, [.int x_th, .ref mwo, .ref mim, .ref mhi, .ref mlu, .ref mtp, .int x_td, .ref mfv, .int x_sz, .int x_at, .int x_fr, .int x_to, .int x_va, .int x_fk, .int x_fp, .ref mfr, .ref mwt, .int x_wt, .int x_op, .int x_jo, .ref mfg, .ref mpl, .long x_dr, .ref mtm, .ref mfa, .ref mqu, .ref mmo, .ref mwy, .ref mwn, .ref mma, .ref mwi, .ref mnu, .ref mmv])), (mwo, .inl (c_wo, 1875, .inl w_wo)), (mlu, .inl (c_lu, 20000, .inl w_lu)), (mfg, .inl (c_fg, 12, .inl v.2.2.2.2)), (mnu, .inl (c_nu, 240, .inr (.inl w_nu))), (mma, .inl (c_ma, 4, .inl w_ma))] H ∧ va_D A [(o0, .inr (8, [.int x_th, .ref mwo, .ref mim, .ref mhi, .ref mlu, .ref mtp, .int x_td, .ref mfv, .int x_sz, .int x_at, .int x_fr, .int x_to, .int x_va, .int x_fk, .int x_fp, .ref mfr, .ref mwt, .int x_wt, .int x_op, .int x_jo, .ref mfg, .ref mpl, .long x_dr, .ref mtm, .ref mfa, .ref mqu, .ref mmo, .ref mwy, .ref mwn, .ref mma, .ref mwi, .ref mnu, .ref mmv])), (mwo, .inl (c_wo, 1875, .inl w_wo)), (mlu, .inl (c_lu, 20000, .inl w_lu)), (mfg, .inl (c_fg, 12, .inl v.2.2.2.2)), (mnu, .inl (c_nu, 240, .inr (.inl w_nu))), (mma, .inl (c_ma, 4, .inl w_ma))] ∧ va_S A s.heap H locs ∧ lv_has ls 10 [(9, .int v.1), (8, .int y_6943), (7, .int v.2.1), (6, .int v.2.2.1), (5, .int v.2.2.2.1), (4, .int r_5787), (0, .ref o0), (1, .int a1), (2, .int a2), (3, .int a3)]) (fun v H locs ls hI ih_98_11477 => ?_) ((0 : Int32), (-1 : Int32), (0 : Int32), (0 : Int32), w_fg) ⟨(show (0 : Int) ≤ (0 : Int32).toInt ∧ (0 : Int32).toInt ≤ 20000 from (rg_w (by decide : (0 : Int) ≤ (0 : Int32).toInt ∧ (0 : Int32).toInt ≤ 0) (by decide) (by decide))), (show (-1 : Int) ≤ (-1 : Int32).toInt ∧ (-1 : Int32).toInt ≤ 19999 from (rg_w (by decide : (-1 : Int) ≤ ((-1) : Int32).toInt ∧ ((-1) : Int32).toInt ≤ -1) (by decide) (by decide))), (show rg w_fg 12 0 15 from ha_mfg), hP, hD, hS, lv_sub hl [0, 1, 2, 3, 4, 5, 6, 7, 8, 9] rfl⟩
        obtain ⟨y_10468, y_10469, y_10470, y_10471, f_10472⟩ := v
        obtain ⟨b_y_10468, b_y_10469, ha_f_10472, hP, hD, hS, hl⟩ := hI
        have b_y_10468 : (0 : Int) ≤ y_10468.toInt ∧ y_10468.toInt ≤ 20000 := b_y_10468
        have b_y_10469 : (-1 : Int) ≤ y_10469.toInt ∧ y_10469.toInt ≤ 19999 := b_y_10469
        have ha_f_10472 : rg f_10472 12 0 15 := ha_f_10472
        have hP : va_P (dC, dI) vwCl [(o0, .inr (8, [.int x_th, .ref mwo, .ref mim, .ref mhi, .ref mlu, .ref mtp, .int x_td, .ref mfv, .int x_sz, .int x_at, .int x_fr, .int x_to, .int x_va, .int x_fk, .int x_fp, .ref mfr, .ref mwt, .int x_wt, .int x_op, .int x_jo, .ref mfg, .ref mpl, .long x_dr, .ref mtm, .ref mfa, .ref mqu, .ref mmo, .ref mwy, .ref mwn, .ref mma, .ref mwi, .ref mnu, .ref mmv])), (mwo, .inl (c_wo, 1875, .inl w_wo)), (mlu, .inl (c_lu, 20000, .inl w_lu)), (mfg, .inl (c_fg, 12, .inl f_10472)), (mnu, .inl (c_nu, 240, .inr (.inl w_nu))), (mma, .inl (c_ma, 4, .inl w_ma))] H := hP
        have hD : va_D A [(o0, .inr (8, [.int x_th, .ref mwo, .ref mim, .ref mhi, .ref mlu, .ref mtp, .int x_td, .ref mfv, .int x_sz, .int x_at, .int x_fr, .int x_to, .int x_va, .int x_fk, .int x_fp, .ref mfr, .ref mwt, .int x_wt, .int x_op, .int x_jo, .ref mfg, .ref mpl, .long x_dr, .ref mtm, .ref mfa, .ref mqu, .ref mmo, .ref mwy, .ref mwn, .ref mma, .ref mwi, .ref mnu, .ref mmv])), (mwo, .inl (c_wo, 1875, .inl w_wo)), (mlu, .inl (c_lu, 20000, .inl w_lu)), (mfg, .inl (c_fg, 12, .inl f_10472)), (mnu, .inl (c_nu, 240, .inr (.inl w_nu))), (mma, .inl (c_ma, 4, .inl w_ma))] := hD
        have hl : lv_has ls 10 [(9, .int y_10468), (8, .int y_6943), (7, .int y_10469), (6, .int y_10470), (5, .int y_10471), (4, .int r_5787), (0, .ref o0), (1, .int a1), (2, .int a2), (3, .int a3)] := hl
        refine lv_iload hx hb dX10_worn_98 (lv_at hl 0 rfl) ?_
        refine lv_aload_n hx hb dX10_worn_100 rfl (lv_at hl 6 rfl) ?_
        refine va_get (D := (dC, dI)) (ci := 8) (v := .ref mwo) (C := RX10) (T := TX10) (N := 33) hx hb hts iX10_worn_X10 hown hK hP 0 rfl rfl 1 (by decide) (hts (.fieldLink RX10 9 "LuckyTicketModel" "world" "[I") (List.mem_of_getElem? (i := 11) rfl)) (fun _ h9 => h9) rfl dX10_worn_101 ?_
        refine lv_iconst (v := 2) hx hb dX10_worn_104 (by decide) ?_
        refine va_iald hx hb hK hP 1 0 rfl rfl (vp_in_b (by decide : (2 : Int) ≤ (2 : Int32).toInt ∧ (2 : Int32).toInt ≤ 2) (by decide) (by decide)) dX10_worn_105 ?_
        refine lv_topi (fun z_11478 e_z_11478 => ?_)
        obtain rfl : tk = z_11478 := (e_z_11478.trans hw2).symm
        refine lv_icmp_ge (tgt := 176) hx hb dX10_worn_106 (by decide) (fun c_11479 => ?_) (fun c_11479 => ?_)
        ·
          have n_c_11479 : (tk.toInt : Int) ≤ y_10468.toInt := c_ge rfl rfl c_11479
          refine lv_iload_n hx hb dX10_worn_176 rfl (lv_at hl 9 rfl) ?_
          refine lv_if_ne (tgt := 185) hx hb dX10_worn_177 (by decide) (fun c_11511 => ?_) (fun c_11511 => ?_)
          ·
            have n_c_11511 : (a3.toInt : Int) ≠ 0 := c_ne rfl (by decide) c_11511
            refine lv_iload_n hx hb dX10_worn_185 rfl (lv_at hl 9 rfl) ?_
            refine lv_iconst (v := 1) hx hb dX10_worn_186 (by decide) ?_
            refine lv_icmp_ne (tgt := 195) hx hb dX10_worn_187 (by decide) (fun c_11512 => ?_) (fun c_11512 => ?_)
            ·
              have n_c_11512 : (a3.toInt : Int) ≠ 1 := c_ne rfl (by decide) c_11512
              refine lv_iload_n hx hb dX10_worn_195 rfl (lv_at hl 9 rfl) ?_
              refine lv_iconst (v := 2) hx hb dX10_worn_196 (by decide) ?_
              refine lv_icmp_ne (tgt := 205) hx hb dX10_worn_197 (by decide) (fun c_11513 => ?_) (fun c_11513 => ?_)
              ·
                have n_c_11513 : (a3.toInt : Int) ≠ 2 := c_ne rfl (by decide) c_11513
                refine lv_iload hx hb dX10_worn_205 (lv_at hl 1 rfl) ?_
                have hP9 := hP.sub (ws' := [(o0, .inr (8, [.int x_th, .ref mwo, .ref mim, .ref mhi, .ref mlu, .ref mtp, .int x_td, .ref mfv, .int x_sz, .int x_at, .int x_fr, .int x_to, .int x_va, .int x_fk, .int x_fp, .ref mfr, .ref mwt, .int x_wt, .int x_op, .int x_jo, .ref mfg, .ref mpl, .long x_dr, .ref mtm, .ref mfa, .ref mqu, .ref mmo, .ref mwy, .ref mwn, .ref mma, .ref mwi, .ref mnu, .ref mmv])), (mwo, .inl (c_wo, 1875, .inl w_wo)), (mlu, .inl (c_lu, 20000, .inl w_lu)), (mfg, .inl (c_fg, 12, .inl f_10472)), (mnu, .inl (c_nu, 240, .inr (.inl w_nu))), (mma, .inl (c_ma, 4, .inl w_ma))]) [0, 1, 2, 3, 4, 5] rfl
                have hD9 := hD.sub (ws' := [(o0, .inr (8, [.int x_th, .ref mwo, .ref mim, .ref mhi, .ref mlu, .ref mtp, .int x_td, .ref mfv, .int x_sz, .int x_at, .int x_fr, .int x_to, .int x_va, .int x_fk, .int x_fp, .ref mfr, .ref mwt, .int x_wt, .int x_op, .int x_jo, .ref mfg, .ref mpl, .long x_dr, .ref mtm, .ref mfa, .ref mqu, .ref mmo, .ref mwy, .ref mwn, .ref mma, .ref mwi, .ref mnu, .ref mmv])), (mwo, .inl (c_wo, 1875, .inl w_wo)), (mlu, .inl (c_lu, 20000, .inl w_lu)), (mfg, .inl (c_fg, 12, .inl f_10472)), (mnu, .inl (c_nu, 240, .inr (.inl w_nu))), (mma, .inl (c_ma, 4, .inl w_ma))]) [0, 1, 2, 3, 4, 5] (by decide) rfl
                have hK9 := hK.sub (tys' := [(c_wo, .int), (c_lu, .int), (c_fg, .int), (c_nu, .long), (c_ma, .int)]) [0, 1, 2, 3, 4] rfl
                exact W.iret (v := y_6943) hx hb hr (fun t ht hW => ⟨⟨y_6943, (), rfl, trivial, f_10472, ha_f_10472, by rw [ht]; exact hP9, va_K.moved hW.alike hK9, hD9⟩, hS.F ht⟩) hS.2.2 dX10_worn_207
              ·
                have n_c_11513 : (a3.toInt : Int) = 2 := c_eq rfl (by decide) c_11513
                have b_a3 : (2 : Int) ≤ a3.toInt ∧ a3.toInt ≤ 2 := r_eq1 (ti_rng a3) (by decide : (2 : Int) ≤ (2 : Int32).toInt ∧ (2 : Int32).toInt ≤ 2) n_c_11513 (by decide)
                refine lv_iload hx hb dX10_worn_200 (lv_at hl 2 rfl) ?_
                refine lv_goto (tgt := 207) hx hb dX10_worn_202 (by decide) ?_
                have hP9 := hP.sub (ws' := [(o0, .inr (8, [.int x_th, .ref mwo, .ref mim, .ref mhi, .ref mlu, .ref mtp, .int x_td, .ref mfv, .int x_sz, .int x_at, .int x_fr, .int x_to, .int x_va, .int x_fk, .int x_fp, .ref mfr, .ref mwt, .int x_wt, .int x_op, .int x_jo, .ref mfg, .ref mpl, .long x_dr, .ref mtm, .ref mfa, .ref mqu, .ref mmo, .ref mwy, .ref mwn, .ref mma, .ref mwi, .ref mnu, .ref mmv])), (mwo, .inl (c_wo, 1875, .inl w_wo)), (mlu, .inl (c_lu, 20000, .inl w_lu)), (mfg, .inl (c_fg, 12, .inl f_10472)), (mnu, .inl (c_nu, 240, .inr (.inl w_nu))), (mma, .inl (c_ma, 4, .inl w_ma))]) [0, 1, 2, 3, 4, 5] rfl
                have hD9 := hD.sub (ws' := [(o0, .inr (8, [.int x_th, .ref mwo, .ref mim, .ref mhi, .ref mlu, .ref mtp, .int x_td, .ref mfv, .int x_sz, .int x_at, .int x_fr, .int x_to, .int x_va, .int x_fk, .int x_fp, .ref mfr, .ref mwt, .int x_wt, .int x_op, .int x_jo, .ref mfg, .ref mpl, .long x_dr, .ref mtm, .ref mfa, .ref mqu, .ref mmo, .ref mwy, .ref mwn, .ref mma, .ref mwi, .ref mnu, .ref mmv])), (mwo, .inl (c_wo, 1875, .inl w_wo)), (mlu, .inl (c_lu, 20000, .inl w_lu)), (mfg, .inl (c_fg, 12, .inl f_10472)), (mnu, .inl (c_nu, 240, .inr (.inl w_nu))), (mma, .inl (c_ma, 4, .inl w_ma))]) [0, 1, 2, 3, 4, 5] (by decide) rfl
                have hK9 := hK.sub (tys' := [(c_wo, .int), (c_lu, .int), (c_fg, .int), (c_nu, .long), (c_ma, .int)]) [0, 1, 2, 3, 4] rfl
                exact W.iret (v := y_10469) hx hb hr (fun t ht hW => ⟨⟨y_10469, (), rfl, trivial, f_10472, ha_f_10472, by rw [ht]; exact hP9, va_K.moved hW.alike hK9, hD9⟩, hS.F ht⟩) hS.2.2 dX10_worn_207
            ·
              have n_c_11512 : (a3.toInt : Int) = 1 := c_eq rfl (by decide) c_11512
              have b_a3 : (1 : Int) ≤ a3.toInt ∧ a3.toInt ≤ 1 := r_eq1 (ti_rng a3) (by decide : (1 : Int) ≤ (1 : Int32).toInt ∧ (1 : Int32).toInt ≤ 1) n_c_11512 (by decide)
              refine lv_iload hx hb dX10_worn_190 (lv_at hl 3 rfl) ?_
              refine lv_goto (tgt := 207) hx hb dX10_worn_192 (by decide) ?_
              have hP9 := hP.sub (ws' := [(o0, .inr (8, [.int x_th, .ref mwo, .ref mim, .ref mhi, .ref mlu, .ref mtp, .int x_td, .ref mfv, .int x_sz, .int x_at, .int x_fr, .int x_to, .int x_va, .int x_fk, .int x_fp, .ref mfr, .ref mwt, .int x_wt, .int x_op, .int x_jo, .ref mfg, .ref mpl, .long x_dr, .ref mtm, .ref mfa, .ref mqu, .ref mmo, .ref mwy, .ref mwn, .ref mma, .ref mwi, .ref mnu, .ref mmv])), (mwo, .inl (c_wo, 1875, .inl w_wo)), (mlu, .inl (c_lu, 20000, .inl w_lu)), (mfg, .inl (c_fg, 12, .inl f_10472)), (mnu, .inl (c_nu, 240, .inr (.inl w_nu))), (mma, .inl (c_ma, 4, .inl w_ma))]) [0, 1, 2, 3, 4, 5] rfl
              have hD9 := hD.sub (ws' := [(o0, .inr (8, [.int x_th, .ref mwo, .ref mim, .ref mhi, .ref mlu, .ref mtp, .int x_td, .ref mfv, .int x_sz, .int x_at, .int x_fr, .int x_to, .int x_va, .int x_fk, .int x_fp, .ref mfr, .ref mwt, .int x_wt, .int x_op, .int x_jo, .ref mfg, .ref mpl, .long x_dr, .ref mtm, .ref mfa, .ref mqu, .ref mmo, .ref mwy, .ref mwn, .ref mma, .ref mwi, .ref mnu, .ref mmv])), (mwo, .inl (c_wo, 1875, .inl w_wo)), (mlu, .inl (c_lu, 20000, .inl w_lu)), (mfg, .inl (c_fg, 12, .inl f_10472)), (mnu, .inl (c_nu, 240, .inr (.inl w_nu))), (mma, .inl (c_ma, 4, .inl w_ma))]) [0, 1, 2, 3, 4, 5] (by decide) rfl
              have hK9 := hK.sub (tys' := [(c_wo, .int), (c_lu, .int), (c_fg, .int), (c_nu, .long), (c_ma, .int)]) [0, 1, 2, 3, 4] rfl
              exact W.iret (v := y_10470) hx hb hr (fun t ht hW => ⟨⟨y_10470, (), rfl, trivial, f_10472, ha_f_10472, by rw [ht]; exact hP9, va_K.moved hW.alike hK9, hD9⟩, hS.F ht⟩) hS.2.2 dX10_worn_207
          ·
            have n_c_11511 : (a3.toInt : Int) = 0 := c_eq rfl (by decide) c_11511
            have b_a3 : (0 : Int) ≤ a3.toInt ∧ a3.toInt ≤ 0 := r_eq1 (ti_rng a3) (by decide : (0 : Int) ≤ (0 : Int32).toInt ∧ (0 : Int32).toInt ≤ 0) n_c_11511 (by decide)
            refine lv_iload hx hb dX10_worn_180 (lv_at hl 4 rfl) ?_
            refine lv_goto (tgt := 207) hx hb dX10_worn_182 (by decide) ?_
            have hP9 := hP.sub (ws' := [(o0, .inr (8, [.int x_th, .ref mwo, .ref mim, .ref mhi, .ref mlu, .ref mtp, .int x_td, .ref mfv, .int x_sz, .int x_at, .int x_fr, .int x_to, .int x_va, .int x_fk, .int x_fp, .ref mfr, .ref mwt, .int x_wt, .int x_op, .int x_jo, .ref mfg, .ref mpl, .long x_dr, .ref mtm, .ref mfa, .ref mqu, .ref mmo, .ref mwy, .ref mwn, .ref mma, .ref mwi, .ref mnu, .ref mmv])), (mwo, .inl (c_wo, 1875, .inl w_wo)), (mlu, .inl (c_lu, 20000, .inl w_lu)), (mfg, .inl (c_fg, 12, .inl f_10472)), (mnu, .inl (c_nu, 240, .inr (.inl w_nu))), (mma, .inl (c_ma, 4, .inl w_ma))]) [0, 1, 2, 3, 4, 5] rfl
            have hD9 := hD.sub (ws' := [(o0, .inr (8, [.int x_th, .ref mwo, .ref mim, .ref mhi, .ref mlu, .ref mtp, .int x_td, .ref mfv, .int x_sz, .int x_at, .int x_fr, .int x_to, .int x_va, .int x_fk, .int x_fp, .ref mfr, .ref mwt, .int x_wt, .int x_op, .int x_jo, .ref mfg, .ref mpl, .long x_dr, .ref mtm, .ref mfa, .ref mqu, .ref mmo, .ref mwy, .ref mwn, .ref mma, .ref mwi, .ref mnu, .ref mmv])), (mwo, .inl (c_wo, 1875, .inl w_wo)), (mlu, .inl (c_lu, 20000, .inl w_lu)), (mfg, .inl (c_fg, 12, .inl f_10472)), (mnu, .inl (c_nu, 240, .inr (.inl w_nu))), (mma, .inl (c_ma, 4, .inl w_ma))]) [0, 1, 2, 3, 4, 5] (by decide) rfl
            have hK9 := hK.sub (tys' := [(c_wo, .int), (c_lu, .int), (c_fg, .int), (c_nu, .long), (c_ma, .int)]) [0, 1, 2, 3, 4] rfl
            exact W.iret (v := y_10471) hx hb hr (fun t ht hW => ⟨⟨y_10471, (), rfl, trivial, f_10472, ha_f_10472, by rw [ht]; exact hP9, va_K.moved hW.alike hK9, hD9⟩, hS.F ht⟩) hS.2.2 dX10_worn_207
        ·
          have n_c_11479 : (y_10468.toInt : Int) < tk.toInt := c_nge rfl rfl c_11479
          have b_y_10468 : (0 : Int) ≤ y_10468.toInt ∧ y_10468.toInt ≤ 19999 := r_lt1 b_y_10468 b_tk n_c_11479 (by decide)
          have b_tk : (1 : Int) ≤ tk.toInt ∧ tk.toInt ≤ 20000 := r_lt2 b_y_10468 b_tk n_c_11479 (by decide)
          refine lv_aload_n hx hb dX10_worn_109 rfl (lv_at hl 6 rfl) ?_
          refine lv_iload_n hx hb dX10_worn_110 rfl (lv_at hl 7 rfl) ?_
          refine lv_iload hx hb dX10_worn_111 (lv_at hl 0 rfl) ?_
          have hFc := va_free (wc := [(o0, .inr (8, [.int x_th, .ref mwo, .ref mim, .ref mhi, .ref mlu, .ref mtp, .int x_td, .ref mfv, .int x_sz, .int x_at, .int x_fr, .int x_to, .int x_va, .int x_fk, .int x_fp, .ref mfr, .ref mwt, .int x_wt, .int x_op, .int x_jo, .ref mfg, .ref mpl, .long x_dr, .ref mtm, .ref mfa, .ref mqu, .ref mmo, .ref mwy, .ref mwn, .ref mma, .ref mwi, .ref mnu, .ref mmv])), (mwo, .inl (c_wo, 1875, .inl w_wo)), (mfg, .inl (c_fg, 12, .inl f_10472)), (mnu, .inl (c_nu, 240, .inr (.inl w_nu)))]) hD hS hA [0, 1, 3, 4] rfl
          refine va_calli (va_runV (As := [.int a1, .int y_10468]) (rest := []) ⟨hx, hb, hml, hown, hts⟩ (kX10_canBe l dC dI o0 x_th mwo mim mhi mlu mtp x_td mfv x_sz x_at x_fr x_to x_va x_fk x_fp mfr mwt x_wt x_op x_jo mfg mpl x_dr mtm mfa mqu mmo mwy mwn mma mwi mnu mmv c_wo c_fg c_nu w_wo f_10472 w_nu ln bs tk lw li a1 y_10468 (H.size) b_ln b_bs (rg_w b_tk (by decide) (by decide)) b_lw b_a1 b_y_10468 ha_f_10472 (hw0) (hw1) (hw2) (hw3) (hw4) (hwz)) (cwV 2 hts gX10_worn__X10_canBe_V381 rfl rfl rfl hd_yX10_canBe ⟨lel 3 3 rfl, lel 71 71 rfl⟩) ⟨hw_fb, rcv_X10 hK hP (q0 := 0) rfl, (hw_use hP hD hK hN [0, 1, 3, 4] rfl (by decide) rfl [0, 2, 3] rfl)⟩ rfl rfl hl.1 rfl (lv_room (Nat.le_of_ble_eq_true rfl)) dX10_worn_113 ⟨lel 0 0 rfl, lel 0 0 rfl⟩) hS (fun q _ h => hFc q h) hFc (fun r_11514 u_11515 t H1 locs ht hvm hw_r_11514 hB hz1 hk1 hS => ?_)
          obtain ⟨o0_11516, ha_11517, hP1, hK1, hD1⟩ := hB
          rw [ht] at hP1
          have hK1 := va_K.moved hvm.symm hK1
          obtain ⟨hP, hD⟩ := va_join (wr := [(mlu, .inl (c_lu, 20000, .inl w_lu)), (mma, .inl (c_ma, 4, .inl w_ma))]) (w1 := [(o0, .inr (8, [.int x_th, .ref mwo, .ref mim, .ref mhi, .ref mlu, .ref mtp, .int x_td, .ref mfv, .int x_sz, .int x_at, .int x_fr, .int x_to, .int x_va, .int x_fk, .int x_fp, .ref mfr, .ref mwt, .int x_wt, .int x_op, .int x_jo, .ref mfg, .ref mpl, .long x_dr, .ref mtm, .ref mfa, .ref mqu, .ref mmo, .ref mwy, .ref mwn, .ref mma, .ref mwi, .ref mnu, .ref mmv])), (mwo, .inl (c_wo, 1875, .inl w_wo)), (mfg, .inl (c_fg, 12, .inl o0_11516)), (mnu, .inl (c_nu, 240, .inr (.inl w_nu)))]) hP hD [0, 1, 3, 4] [2, 5] rfl rfl (by decide) (by decide) hk1 hFc hP1 hD1
          have hK := (hK.sub (tys' := [(c_lu, .int), (c_ma, .int)]) [1, 4] rfl).app hK1
          generalize H1 = H at hP hS ⊢
          have hP := hP.sub (ws' := [(o0, .inr (8, [.int x_th, .ref mwo, .ref mim, .ref mhi, .ref mlu, .ref mtp, .int x_td, .ref mfv, .int x_sz, .int x_at, .int x_fr, .int x_to, .int x_va, .int x_fk, .int x_fp, .ref mfr, .ref mwt, .int x_wt, .int x_op, .int x_jo, .ref mfg, .ref mpl, .long x_dr, .ref mtm, .ref mfa, .ref mqu, .ref mmo, .ref mwy, .ref mwn, .ref mma, .ref mwi, .ref mnu, .ref mmv])), (mwo, .inl (c_wo, 1875, .inl w_wo)), (mlu, .inl (c_lu, 20000, .inl w_lu)), (mfg, .inl (c_fg, 12, .inl o0_11516)), (mnu, .inl (c_nu, 240, .inr (.inl w_nu))), (mma, .inl (c_ma, 4, .inl w_ma))]) [2, 3, 0, 4, 5, 1] rfl
          have hD := hD.sub (ws' := [(o0, .inr (8, [.int x_th, .ref mwo, .ref mim, .ref mhi, .ref mlu, .ref mtp, .int x_td, .ref mfv, .int x_sz, .int x_at, .int x_fr, .int x_to, .int x_va, .int x_fk, .int x_fp, .ref mfr, .ref mwt, .int x_wt, .int x_op, .int x_jo, .ref mfg, .ref mpl, .long x_dr, .ref mtm, .ref mfa, .ref mqu, .ref mmo, .ref mwy, .ref mwn, .ref mma, .ref mwi, .ref mnu, .ref mmv])), (mwo, .inl (c_wo, 1875, .inl w_wo)), (mlu, .inl (c_lu, 20000, .inl w_lu)), (mfg, .inl (c_fg, 12, .inl o0_11516)), (mnu, .inl (c_nu, 240, .inr (.inl w_nu))), (mma, .inl (c_ma, 4, .inl w_ma))]) [2, 3, 0, 4, 5, 1] (by decide) rfl
          have hK := hK.sub (tys' := [(c_wo, .int), (c_lu, .int), (c_fg, .int), (c_nu, .long), (c_ma, .int)]) [2, 0, 3, 4, 1] rfl
          have hP : va_P (dC, dI) vwCl [(o0, .inr (8, [.int x_th, .ref mwo, .ref mim, .ref mhi, .ref mlu, .ref mtp, .int x_td, .ref mfv, .int x_sz, .int x_at, .int x_fr, .int x_to, .int x_va, .int x_fk, .int x_fp, .ref mfr, .ref mwt, .int x_wt, .int x_op, .int x_jo, .ref mfg, .ref mpl, .long x_dr, .ref mtm, .ref mfa, .ref mqu, .ref mmo, .ref mwy, .ref mwn, .ref mma, .ref mwi, .ref mnu, .ref mmv])), (mwo, .inl (c_wo, 1875, .inl w_wo)), (mlu, .inl (c_lu, 20000, .inl w_lu)), (mfg, .inl (c_fg, 12, .inl o0_11516)), (mnu, .inl (c_nu, 240, .inr (.inl w_nu))), (mma, .inl (c_ma, 4, .inl w_ma))] H := hP
          have hD : va_D A [(o0, .inr (8, [.int x_th, .ref mwo, .ref mim, .ref mhi, .ref mlu, .ref mtp, .int x_td, .ref mfv, .int x_sz, .int x_at, .int x_fr, .int x_to, .int x_va, .int x_fk, .int x_fp, .ref mfr, .ref mwt, .int x_wt, .int x_op, .int x_jo, .ref mfg, .ref mpl, .long x_dr, .ref mtm, .ref mfa, .ref mqu, .ref mmo, .ref mwy, .ref mwn, .ref mma, .ref mwi, .ref mnu, .ref mmv])), (mwo, .inl (c_wo, 1875, .inl w_wo)), (mlu, .inl (c_lu, 20000, .inl w_lu)), (mfg, .inl (c_fg, 12, .inl o0_11516)), (mnu, .inl (c_nu, 240, .inr (.inl w_nu))), (mma, .inl (c_ma, 4, .inl w_ma))] := hD
          have hK : va_K (dC, dI) vwCl [(c_wo, .int), (c_lu, .int), (c_fg, .int), (c_nu, .long), (c_ma, .int)] s := hK
          have b_r_11514 := hw_r_11514
          have b_r_11514 : (0 : Int) ≤ r_11514.toInt ∧ r_11514.toInt ≤ 1 := b_r_11514
          refine cutW (σ := Int32 × Int32 × Int32) (pc2 := 170) (st2 := fun v => []) (cells2 := 0) (slots2 := 0) (fun v H locs ls => ((-1 : Int) ≤ v.1.toInt ∧ v.1.toInt ≤ 19999) ∧ va_P (dC, dI) vwCl [(o0, .inr (8, [.int x_th, .ref mwo, .ref mim, .ref mhi, .ref mlu, .ref mtp, .int x_td, .ref mfv, .int x_sz, .int x_at, .int x_fr, .int x_to, .int x_va, .int x_fk, .int x_fp, .ref mfr, .ref mwt, .int x_wt, .int x_op, .int x_jo, .ref mfg, .ref mpl, .long x_dr, .ref mtm, .ref mfa, .ref mqu, .ref mmo, .ref mwy, .ref mwn, .ref mma, .ref mwi, .ref mnu, .ref mmv])), (mwo, .inl (c_wo, 1875, .inl w_wo)), (mlu, .inl (c_lu, 20000, .inl w_lu)), (mfg, .inl (c_fg, 12, .inl o0_11516)), (mnu, .inl (c_nu, 240, .inr (.inl w_nu))), (mma, .inl (c_ma, 4, .inl w_ma))] H ∧ va_D A [(o0, .inr (8, [.int x_th, .ref mwo, .ref mim, .ref mhi, .ref mlu, .ref mtp, .int x_td, .ref mfv, .int x_sz, .int x_at, .int x_fr, .int x_to, .int x_va, .int x_fk, .int x_fp, .ref mfr, .ref mwt, .int x_wt, .int x_op, .int x_jo, .ref mfg, .ref mpl, .long x_dr, .ref mtm, .ref mfa, .ref mqu, .ref mmo, .ref mwy, .ref mwn, .ref mma, .ref mwi, .ref mnu, .ref mmv])), (mwo, .inl (c_wo, 1875, .inl w_wo)), (mlu, .inl (c_lu, 20000, .inl w_lu)), (mfg, .inl (c_fg, 12, .inl o0_11516)), (mnu, .inl (c_nu, 240, .inr (.inl w_nu))), (mma, .inl (c_ma, 4, .inl w_ma))] ∧ va_S A s.heap H locs ∧ lv_has ls 10 [(7, .int v.1), (6, .int v.2.1), (5, .int v.2.2), (9, .int y_10468), (8, .int y_6943), (4, .int r_5787), (0, .ref o0), (1, .int a1), (2, .int a2), (3, .int a3)]) (fun v H locs ls hI => ?_) (fun hj_170_11532 => ?_)
          ·
            obtain ⟨y_11530, y_11531, y_11532⟩ := v
            obtain ⟨b_y_11530, hP, hD, hS, hl⟩ := hI
            have b_y_11530 : (-1 : Int) ≤ y_11530.toInt ∧ y_11530.toInt ≤ 19999 := b_y_11530
            have hP : va_P (dC, dI) vwCl [(o0, .inr (8, [.int x_th, .ref mwo, .ref mim, .ref mhi, .ref mlu, .ref mtp, .int x_td, .ref mfv, .int x_sz, .int x_at, .int x_fr, .int x_to, .int x_va, .int x_fk, .int x_fp, .ref mfr, .ref mwt, .int x_wt, .int x_op, .int x_jo, .ref mfg, .ref mpl, .long x_dr, .ref mtm, .ref mfa, .ref mqu, .ref mmo, .ref mwy, .ref mwn, .ref mma, .ref mwi, .ref mnu, .ref mmv])), (mwo, .inl (c_wo, 1875, .inl w_wo)), (mlu, .inl (c_lu, 20000, .inl w_lu)), (mfg, .inl (c_fg, 12, .inl o0_11516)), (mnu, .inl (c_nu, 240, .inr (.inl w_nu))), (mma, .inl (c_ma, 4, .inl w_ma))] H := hP
            have hD : va_D A [(o0, .inr (8, [.int x_th, .ref mwo, .ref mim, .ref mhi, .ref mlu, .ref mtp, .int x_td, .ref mfv, .int x_sz, .int x_at, .int x_fr, .int x_to, .int x_va, .int x_fk, .int x_fp, .ref mfr, .ref mwt, .int x_wt, .int x_op, .int x_jo, .ref mfg, .ref mpl, .long x_dr, .ref mtm, .ref mfa, .ref mqu, .ref mmo, .ref mwy, .ref mwn, .ref mma, .ref mwi, .ref mnu, .ref mmv])), (mwo, .inl (c_wo, 1875, .inl w_wo)), (mlu, .inl (c_lu, 20000, .inl w_lu)), (mfg, .inl (c_fg, 12, .inl o0_11516)), (mnu, .inl (c_nu, 240, .inr (.inl w_nu))), (mma, .inl (c_ma, 4, .inl w_ma))] := hD
            have hl : lv_has ls 10 [(7, .int y_11530), (6, .int y_11531), (5, .int y_11532), (9, .int y_10468), (8, .int y_6943), (4, .int r_5787), (0, .ref o0), (1, .int a1), (2, .int a2), (3, .int a3)] := hl
            obtain ⟨z_11533, e_z_11533⟩ : ∃ y : Int32, y = y_10468 + 1 := ⟨_, rfl⟩
            refine lv_iinc (v := z_11533) (lv' := [(9, .int z_11533), (7, .int y_11530), (6, .int y_11531), (5, .int y_11532), (8, .int y_6943), (4, .int r_5787), (0, .ref o0), (1, .int a1), (2, .int a2), (3, .int a3)]) hx hb dX10_worn_170 hl (k := 3) rfl (by rw [e_z_11533]; rfl) (by decide) rfl (fun ls hl => ?_)
            obtain ⟨q_z_11533, b_z_11533⟩ := ti_add (lo := 1) (hi := 20000) e_z_11533 rfl (by decide : (1 : Int32).toInt = 1) b_y_10468 (by decide : (1 : Int) ≤ (1 : Int32).toInt ∧ (1 : Int32).toInt ≤ 1) (by decide)
            refine lv_goto (tgt := 98) hx hb dX10_worn_173 (by decide) ?_
            exact ih_98_11477 (z_11533, y_11530, y_11531, y_11532, o0_11516) _ _ _ ⟨(show (0 : Int) ≤ z_11533.toInt ∧ z_11533.toInt ≤ 20000 from (rg_w b_z_11533 (by decide) (by decide))), (show (-1 : Int) ≤ y_11530.toInt ∧ y_11530.toInt ≤ 19999 from b_y_11530), (show rg o0_11516 12 0 15 from ha_11517), hP, hD, hS, lv_sub hl [0, 4, 1, 2, 3, 5, 6, 7, 8, 9] rfl⟩ (show (20000 - z_11533.toInt).toNat < (20000 - y_10468.toInt).toNat by omega)
          ·
            refine lv_if_ne (tgt := 122) hx hb dX10_worn_116 (by decide) (fun c_11518 => ?_) (fun c_11518 => ?_)
            ·
              have n_c_11518 : (r_11514.toInt : Int) ≠ 0 := c_ne rfl (by decide) c_11518
              have b_r_11514 : (1 : Int) ≤ r_11514.toInt ∧ r_11514.toInt ≤ 1 := r_ne1 b_r_11514 (by decide : (0 : Int) ≤ (0 : Int32).toInt ∧ (0 : Int32).toInt ≤ 0) n_c_11518 (by decide)
              obtain ⟨z_11534, e_z_11534⟩ : ∃ y : Int32, y = y_10471 + 1 := ⟨_, rfl⟩
              refine lv_iinc (v := z_11534) (lv' := [(5, .int z_11534), (9, .int y_10468), (8, .int y_6943), (7, .int y_10469), (6, .int y_10470), (4, .int r_5787), (0, .ref o0), (1, .int a1), (2, .int a2), (3, .int a3)]) hx hb dX10_worn_122 hl (k := 4) rfl (by rw [e_z_11534]; rfl) (by decide) rfl (fun ls hl => ?_)
              refine lv_iload hx hb dX10_worn_125 (lv_at hl 4 rfl) ?_
              refine lv_aload_n hx hb dX10_worn_127 rfl (lv_at hl 6 rfl) ?_
              refine lv_iload_n hx hb dX10_worn_128 rfl (lv_at hl 8 rfl) ?_
              refine lv_iload hx hb dX10_worn_129 (lv_at hl 1 rfl) ?_
              refine vp_callSi (W.runV (As := [.int a2, .int y_10468]) (rest := [.int y_10470]) ⟨hx, hb, hml, hown, hts⟩ (kX10_isLucky l dC dI o0 x_th mwo mim mhi mlu mtp x_td mfv x_sz x_at x_fr x_to x_va x_fk x_fp mfr mwt x_wt x_op x_jo mfg mpl x_dr mtm mfa mqu mmo mwy mwn mma mwi mnu mmv c_wo c_lu w_wo w_lu ln bs tk lw li a2 y_10468 b_ln b_bs (rg_w b_tk (by decide) (by decide)) b_lw b_y_10468 (hw0) (hw1) (hw2) (hw3) (hw4) (hwz)) (cwV 2 hts gX10_worn__X10_isLucky_V316 rfl rfl rfl hd_yX10_isLucky ⟨lel 1 3 rfl, lel 22 71 rfl⟩) ⟨pw_fb, rcv_X10 hK hP (q0 := 0) rfl, (pw_use hP hK hN [0, 1, 2] rfl [0, 1] rfl)⟩ rfl rfl hl.1 rfl (lv_room (Nat.le_of_ble_eq_true rfl)) dX10_worn_131 ⟨lel 0 0 rfl, lel 0 0 rfl⟩) (fun r_11535 h_r_11535 => ?_)
              have b_r_11535 := h_r_11535
              have b_r_11535 : (0 : Int) ≤ r_11535.toInt ∧ r_11535.toInt ≤ 1 := b_r_11535
              refine cutW (σ := Int32) (pc2 := 142) (st2 := fun v => [.int v, .int y_10470]) (cells2 := 0) (slots2 := 0) (fun v H locs ls => ((0 : Int) ≤ v.toInt ∧ v.toInt ≤ 1) ∧ va_P (dC, dI) vwCl [(o0, .inr (8, [.int x_th, .ref mwo, .ref mim, .ref mhi, .ref mlu, .ref mtp, .int x_td, .ref mfv, .int x_sz, .int x_at, .int x_fr, .int x_to, .int x_va, .int x_fk, .int x_fp, .ref mfr, .ref mwt, .int x_wt, .int x_op, .int x_jo, .ref mfg, .ref mpl, .long x_dr, .ref mtm, .ref mfa, .ref mqu, .ref mmo, .ref mwy, .ref mwn, .ref mma, .ref mwi, .ref mnu, .ref mmv])), (mwo, .inl (c_wo, 1875, .inl w_wo)), (mlu, .inl (c_lu, 20000, .inl w_lu)), (mfg, .inl (c_fg, 12, .inl o0_11516)), (mnu, .inl (c_nu, 240, .inr (.inl w_nu))), (mma, .inl (c_ma, 4, .inl w_ma))] H ∧ va_D A [(o0, .inr (8, [.int x_th, .ref mwo, .ref mim, .ref mhi, .ref mlu, .ref mtp, .int x_td, .ref mfv, .int x_sz, .int x_at, .int x_fr, .int x_to, .int x_va, .int x_fk, .int x_fp, .ref mfr, .ref mwt, .int x_wt, .int x_op, .int x_jo, .ref mfg, .ref mpl, .long x_dr, .ref mtm, .ref mfa, .ref mqu, .ref mmo, .ref mwy, .ref mwn, .ref mma, .ref mwi, .ref mnu, .ref mmv])), (mwo, .inl (c_wo, 1875, .inl w_wo)), (mlu, .inl (c_lu, 20000, .inl w_lu)), (mfg, .inl (c_fg, 12, .inl o0_11516)), (mnu, .inl (c_nu, 240, .inr (.inl w_nu))), (mma, .inl (c_ma, 4, .inl w_ma))] ∧ va_S A s.heap H locs ∧ lv_has ls 10 [(5, .int z_11534), (9, .int y_10468), (8, .int y_6943), (7, .int y_10469), (6, .int y_10470), (4, .int r_5787), (0, .ref o0), (1, .int a1), (2, .int a2), (3, .int a3)]) (fun v H locs ls hI => ?_) (fun hj_142_11537 => ?_)
              ·
                obtain ⟨y_11537, rfl⟩ : ∃ z, z = v := ⟨_, rfl⟩
                obtain ⟨b_y_11537, hP, hD, hS, hl⟩ := hI
                have b_y_11537 : (0 : Int) ≤ y_11537.toInt ∧ y_11537.toInt ≤ 1 := b_y_11537
                have hP : va_P (dC, dI) vwCl [(o0, .inr (8, [.int x_th, .ref mwo, .ref mim, .ref mhi, .ref mlu, .ref mtp, .int x_td, .ref mfv, .int x_sz, .int x_at, .int x_fr, .int x_to, .int x_va, .int x_fk, .int x_fp, .ref mfr, .ref mwt, .int x_wt, .int x_op, .int x_jo, .ref mfg, .ref mpl, .long x_dr, .ref mtm, .ref mfa, .ref mqu, .ref mmo, .ref mwy, .ref mwn, .ref mma, .ref mwi, .ref mnu, .ref mmv])), (mwo, .inl (c_wo, 1875, .inl w_wo)), (mlu, .inl (c_lu, 20000, .inl w_lu)), (mfg, .inl (c_fg, 12, .inl o0_11516)), (mnu, .inl (c_nu, 240, .inr (.inl w_nu))), (mma, .inl (c_ma, 4, .inl w_ma))] H := hP
                have hD : va_D A [(o0, .inr (8, [.int x_th, .ref mwo, .ref mim, .ref mhi, .ref mlu, .ref mtp, .int x_td, .ref mfv, .int x_sz, .int x_at, .int x_fr, .int x_to, .int x_va, .int x_fk, .int x_fp, .ref mfr, .ref mwt, .int x_wt, .int x_op, .int x_jo, .ref mfg, .ref mpl, .long x_dr, .ref mtm, .ref mfa, .ref mqu, .ref mmo, .ref mwy, .ref mwn, .ref mma, .ref mwi, .ref mnu, .ref mmv])), (mwo, .inl (c_wo, 1875, .inl w_wo)), (mlu, .inl (c_lu, 20000, .inl w_lu)), (mfg, .inl (c_fg, 12, .inl o0_11516)), (mnu, .inl (c_nu, 240, .inr (.inl w_nu))), (mma, .inl (c_ma, 4, .inl w_ma))] := hD
                have hl : lv_has ls 10 [(5, .int z_11534), (9, .int y_10468), (8, .int y_6943), (7, .int y_10469), (6, .int y_10470), (4, .int r_5787), (0, .ref o0), (1, .int a1), (2, .int a2), (3, .int a3)] := hl
                refine lv_iadd hx hb dX10_worn_142 ?_
                refine lv_topi (fun z_11538 e_z_11538 => ?_)
                refine lv_istore (lv' := [(6, .int z_11538), (5, .int z_11534), (9, .int y_10468), (8, .int y_6943), (7, .int y_10469), (4, .int r_5787), (0, .ref o0), (1, .int a1), (2, .int a2), (3, .int a3)]) hx hb dX10_worn_143 hl (by decide) rfl (fun ls hl => ?_)
                refine lv_iload hx hb dX10_worn_145 (lv_at hl 4 rfl) ?_
                refine lv_iconst (v := (-1)) hx hb dX10_worn_147 (by decide) ?_
                refine cutW (σ := Int32) (pc2 := 168) (st2 := fun v => [.int v]) (cells2 := 0) (slots2 := 0) (fun v H locs ls => ((-1 : Int) ≤ v.toInt ∧ v.toInt ≤ 19999) ∧ va_P (dC, dI) vwCl [(o0, .inr (8, [.int x_th, .ref mwo, .ref mim, .ref mhi, .ref mlu, .ref mtp, .int x_td, .ref mfv, .int x_sz, .int x_at, .int x_fr, .int x_to, .int x_va, .int x_fk, .int x_fp, .ref mfr, .ref mwt, .int x_wt, .int x_op, .int x_jo, .ref mfg, .ref mpl, .long x_dr, .ref mtm, .ref mfa, .ref mqu, .ref mmo, .ref mwy, .ref mwn, .ref mma, .ref mwi, .ref mnu, .ref mmv])), (mwo, .inl (c_wo, 1875, .inl w_wo)), (mlu, .inl (c_lu, 20000, .inl w_lu)), (mfg, .inl (c_fg, 12, .inl o0_11516)), (mnu, .inl (c_nu, 240, .inr (.inl w_nu))), (mma, .inl (c_ma, 4, .inl w_ma))] H ∧ va_D A [(o0, .inr (8, [.int x_th, .ref mwo, .ref mim, .ref mhi, .ref mlu, .ref mtp, .int x_td, .ref mfv, .int x_sz, .int x_at, .int x_fr, .int x_to, .int x_va, .int x_fk, .int x_fp, .ref mfr, .ref mwt, .int x_wt, .int x_op, .int x_jo, .ref mfg, .ref mpl, .long x_dr, .ref mtm, .ref mfa, .ref mqu, .ref mmo, .ref mwy, .ref mwn, .ref mma, .ref mwi, .ref mnu, .ref mmv])), (mwo, .inl (c_wo, 1875, .inl w_wo)), (mlu, .inl (c_lu, 20000, .inl w_lu)), (mfg, .inl (c_fg, 12, .inl o0_11516)), (mnu, .inl (c_nu, 240, .inr (.inl w_nu))), (mma, .inl (c_ma, 4, .inl w_ma))] ∧ va_S A s.heap H locs ∧ lv_has ls 10 [(6, .int z_11538), (5, .int z_11534), (9, .int y_10468), (8, .int y_6943), (7, .int y_10469), (4, .int r_5787), (0, .ref o0), (1, .int a1), (2, .int a2), (3, .int a3)]) (fun v H locs ls hI => ?_) (fun hj_168_11542 => ?_)
                ·
                  obtain ⟨y_11542, rfl⟩ : ∃ z, z = v := ⟨_, rfl⟩
                  obtain ⟨b_y_11542, hP, hD, hS, hl⟩ := hI
                  have b_y_11542 : (-1 : Int) ≤ y_11542.toInt ∧ y_11542.toInt ≤ 19999 := b_y_11542
                  have hP : va_P (dC, dI) vwCl [(o0, .inr (8, [.int x_th, .ref mwo, .ref mim, .ref mhi, .ref mlu, .ref mtp, .int x_td, .ref mfv, .int x_sz, .int x_at, .int x_fr, .int x_to, .int x_va, .int x_fk, .int x_fp, .ref mfr, .ref mwt, .int x_wt, .int x_op, .int x_jo, .ref mfg, .ref mpl, .long x_dr, .ref mtm, .ref mfa, .ref mqu, .ref mmo, .ref mwy, .ref mwn, .ref mma, .ref mwi, .ref mnu, .ref mmv])), (mwo, .inl (c_wo, 1875, .inl w_wo)), (mlu, .inl (c_lu, 20000, .inl w_lu)), (mfg, .inl (c_fg, 12, .inl o0_11516)), (mnu, .inl (c_nu, 240, .inr (.inl w_nu))), (mma, .inl (c_ma, 4, .inl w_ma))] H := hP
                  have hD : va_D A [(o0, .inr (8, [.int x_th, .ref mwo, .ref mim, .ref mhi, .ref mlu, .ref mtp, .int x_td, .ref mfv, .int x_sz, .int x_at, .int x_fr, .int x_to, .int x_va, .int x_fk, .int x_fp, .ref mfr, .ref mwt, .int x_wt, .int x_op, .int x_jo, .ref mfg, .ref mpl, .long x_dr, .ref mtm, .ref mfa, .ref mqu, .ref mmo, .ref mwy, .ref mwn, .ref mma, .ref mwi, .ref mnu, .ref mmv])), (mwo, .inl (c_wo, 1875, .inl w_wo)), (mlu, .inl (c_lu, 20000, .inl w_lu)), (mfg, .inl (c_fg, 12, .inl o0_11516)), (mnu, .inl (c_nu, 240, .inr (.inl w_nu))), (mma, .inl (c_ma, 4, .inl w_ma))] := hD
                  have hl : lv_has ls 10 [(6, .int z_11538), (5, .int z_11534), (9, .int y_10468), (8, .int y_6943), (7, .int y_10469), (4, .int r_5787), (0, .ref o0), (1, .int a1), (2, .int a2), (3, .int a3)] := hl
                  refine lv_istore (lv' := [(7, .int y_11542), (6, .int z_11538), (5, .int z_11534), (9, .int y_10468), (8, .int y_6943), (4, .int r_5787), (0, .ref o0), (1, .int a1), (2, .int a2), (3, .int a3)]) hx hb dX10_worn_168 hl (by decide) rfl (fun ls hl => ?_)
                  exact hj_170_11532 (y_11542, z_11538, z_11534) _ _ _ ⟨(show (-1 : Int) ≤ y_11542.toInt ∧ y_11542.toInt ≤ 19999 from b_y_11542), hP, hD, hS, lv_sub hl [0, 1, 2, 3, 4, 5, 6, 7, 8, 9] rfl⟩
                ·
                  refine lv_icmp_ne (tgt := 166) hx hb dX10_worn_148 (by decide) (fun c_11539 => ?_) (fun c_11539 => ?_)
                  ·
                    have n_c_11539 : (y_10469.toInt : Int) ≠ (-1) := c_ne rfl (by decide) c_11539
                    have b_y_10469 : (0 : Int) ≤ y_10469.toInt ∧ y_10469.toInt ≤ 19999 := r_ne1 b_y_10469 (by decide : (-1 : Int) ≤ ((-1) : Int32).toInt ∧ ((-1) : Int32).toInt ≤ -1) n_c_11539 (by decide)
                    refine lv_iload hx hb dX10_worn_166 (lv_at hl 4 rfl) ?_
                    exact hj_168_11542 y_10469 _ _ _ ⟨(show (-1 : Int) ≤ y_10469.toInt ∧ y_10469.toInt ≤ 19999 from (rg_w b_y_10469 (by decide) (by decide))), hP, hD, hS, lv_sub hl [0, 1, 2, 3, 4, 5, 6, 7, 8, 9] rfl⟩
                  ·
                    have n_c_11539 : (y_10469.toInt : Int) = (-1) := c_eq rfl (by decide) c_11539
                    have b_y_10469 : (-1 : Int) ≤ y_10469.toInt ∧ y_10469.toInt ≤ -1 := r_eq1 b_y_10469 (by decide : (-1 : Int) ≤ ((-1) : Int32).toInt ∧ ((-1) : Int32).toInt ≤ -1) n_c_11539 (by decide)
                    refine lv_aload_n hx hb dX10_worn_151 rfl (lv_at hl 6 rfl) ?_
                    refine lv_iload_n hx hb dX10_worn_152 rfl (lv_at hl 8 rfl) ?_
                    refine lv_iload hx hb dX10_worn_153 (lv_at hl 2 rfl) ?_
                    refine vp_callSi (W.runV (As := [.int a2, .int y_10468]) (rest := []) ⟨hx, hb, hml, hown, hts⟩ (kX10_isLucky l dC dI o0 x_th mwo mim mhi mlu mtp x_td mfv x_sz x_at x_fr x_to x_va x_fk x_fp mfr mwt x_wt x_op x_jo mfg mpl x_dr mtm mfa mqu mmo mwy mwn mma mwi mnu mmv c_wo c_lu w_wo w_lu ln bs tk lw li a2 y_10468 b_ln b_bs (rg_w b_tk (by decide) (by decide)) b_lw b_y_10468 (hw0) (hw1) (hw2) (hw3) (hw4) (hwz)) (cwV 2 hts gX10_worn__X10_isLucky_V316 rfl rfl rfl hd_yX10_isLucky ⟨lel 1 3 rfl, lel 22 71 rfl⟩) ⟨pw_fb, rcv_X10 hK hP (q0 := 0) rfl, (pw_use hP hK hN [0, 1, 2] rfl [0, 1] rfl)⟩ rfl rfl hl.1 rfl (lv_room (Nat.le_of_ble_eq_true rfl)) dX10_worn_155 ⟨lel 0 0 rfl, lel 0 0 rfl⟩) (fun r_11543 h_r_11543 => ?_)
                    have b_r_11543 := h_r_11543
                    have b_r_11543 : (0 : Int) ≤ r_11543.toInt ∧ r_11543.toInt ≤ 1 := b_r_11543
                    refine lv_if_eq (tgt := 166) hx hb dX10_worn_158 (by decide) (fun c_11544 => ?_) (fun c_11544 => ?_)
                    ·
                      have n_c_11544 : (r_11543.toInt : Int) = 0 := c_eq rfl (by decide) c_11544
                      have b_r_11543 : (0 : Int) ≤ r_11543.toInt ∧ r_11543.toInt ≤ 0 := r_eq1 b_r_11543 (by decide : (0 : Int) ≤ (0 : Int32).toInt ∧ (0 : Int32).toInt ≤ 0) n_c_11544 (by decide)
                      refine lv_iload hx hb dX10_worn_166 (lv_at hl 4 rfl) ?_
                      exact hj_168_11542 y_10469 _ _ _ ⟨(show (-1 : Int) ≤ y_10469.toInt ∧ y_10469.toInt ≤ 19999 from (rg_w b_y_10469 (by decide) (by decide))), hP, hD, hS, lv_sub hl [0, 1, 2, 3, 4, 5, 6, 7, 8, 9] rfl⟩
                    ·
                      have n_c_11544 : (r_11543.toInt : Int) ≠ 0 := c_ne rfl (by decide) c_11544
                      have b_r_11543 : (1 : Int) ≤ r_11543.toInt ∧ r_11543.toInt ≤ 1 := r_ne1 b_r_11543 (by decide : (0 : Int) ≤ (0 : Int32).toInt ∧ (0 : Int32).toInt ≤ 0) n_c_11544 (by decide)
                      refine lv_iload hx hb dX10_worn_161 (lv_at hl 2 rfl) ?_
                      refine lv_goto (tgt := 168) hx hb dX10_worn_163 (by decide) ?_
                      exact hj_168_11542 y_10468 _ _ _ ⟨(show (-1 : Int) ≤ y_10468.toInt ∧ y_10468.toInt ≤ 19999 from (rg_w b_y_10468 (by decide) (by decide))), hP, hD, hS, lv_sub hl [0, 1, 2, 3, 4, 5, 6, 7, 8, 9] rfl⟩
              ·
                refine lv_if_eq (tgt := 141) hx hb dX10_worn_134 (by decide) (fun c_11536 => ?_) (fun c_11536 => ?_)
                ·
                  have n_c_11536 : (r_11535.toInt : Int) = 0 := c_eq rfl (by decide) c_11536
                  have b_r_11535 : (0 : Int) ≤ r_11535.toInt ∧ r_11535.toInt ≤ 0 := r_eq1 b_r_11535 (by decide : (0 : Int) ≤ (0 : Int32).toInt ∧ (0 : Int32).toInt ≤ 0) n_c_11536 (by decide)
                  refine lv_iconst (v := 0) hx hb dX10_worn_141 (by decide) ?_
                  exact hj_142_11537 (0 : Int32) _ _ _ ⟨(show (0 : Int) ≤ (0 : Int32).toInt ∧ (0 : Int32).toInt ≤ 1 from (rg_w (by decide : (0 : Int) ≤ (0 : Int32).toInt ∧ (0 : Int32).toInt ≤ 0) (by decide) (by decide))), hP, hD, hS, lv_sub hl [0, 1, 2, 3, 4, 5, 6, 7, 8, 9] rfl⟩
                ·
                  have n_c_11536 : (r_11535.toInt : Int) ≠ 0 := c_ne rfl (by decide) c_11536
                  have b_r_11535 : (1 : Int) ≤ r_11535.toInt ∧ r_11535.toInt ≤ 1 := r_ne1 b_r_11535 (by decide : (0 : Int) ≤ (0 : Int32).toInt ∧ (0 : Int32).toInt ≤ 0) n_c_11536 (by decide)
                  refine lv_iconst (v := 1) hx hb dX10_worn_137 (by decide) ?_
                  refine lv_goto (tgt := 142) hx hb dX10_worn_138 (by decide) ?_
                  exact hj_142_11537 (1 : Int32) _ _ _ ⟨(show (0 : Int) ≤ (1 : Int32).toInt ∧ (1 : Int32).toInt ≤ 1 from (rg_w (by decide : (1 : Int) ≤ (1 : Int32).toInt ∧ (1 : Int32).toInt ≤ 1) (by decide) (by decide))), hP, hD, hS, lv_sub hl [0, 1, 2, 3, 4, 5, 6, 7, 8, 9] rfl⟩
            ·
              have n_c_11518 : (r_11514.toInt : Int) = 0 := c_eq rfl (by decide) c_11518
              have b_r_11514 : (0 : Int) ≤ r_11514.toInt ∧ r_11514.toInt ≤ 0 := r_eq1 b_r_11514 (by decide : (0 : Int) ≤ (0 : Int32).toInt ∧ (0 : Int32).toInt ≤ 0) n_c_11518 (by decide)
              refine lv_goto (tgt := 170) hx hb dX10_worn_119 (by decide) ?_
              exact hj_170_11532 (y_10469, y_10470, y_10471) _ _ _ ⟨(show (-1 : Int) ≤ y_10469.toInt ∧ y_10469.toInt ≤ 19999 from b_y_10469), hP, hD, hS, lv_sub hl [2, 3, 4, 0, 1, 5, 6, 7, 8, 9] rfl⟩
      ·
        have n_c_10401 : (y_6942.toInt : Int) < ln.toInt := c_nge rfl rfl c_10401
        have b_y_6942 : (0 : Int) ≤ y_6942.toInt ∧ y_6942.toInt ≤ 11 := r_lt1 b_y_6942 b_ln n_c_10401 (by decide)
        have b_ln : (1 : Int) ≤ ln.toInt ∧ ln.toInt ≤ 12 := r_lt2 b_y_6942 b_ln n_c_10401 (by decide)
        refine lv_iload hx hb dX10_worn_66 (lv_at hl 1 rfl) ?_
        refine lv_aload_n hx hb dX10_worn_68 rfl (lv_at hl 6 rfl) ?_
        refine lv_iload_n hx hb dX10_worn_69 rfl (lv_at hl 7 rfl) ?_
        refine lv_iload hx hb dX10_worn_70 (lv_at hl 0 rfl) ?_
        refine vp_callSi (W.runV (As := [.int a1, .int y_6942]) (rest := [.int y_6943]) ⟨hx, hb, hml, hown, hts⟩ (kX10_isTold l dC dI o0 x_th mwo mim mhi mlu mtp x_td mfv x_sz x_at x_fr x_to x_va x_fk x_fp mfr mwt x_wt x_op x_jo mfg mpl x_dr mtm mfa mqu mmo mwy mwn mma mwi mnu mmv c_wo c_nu w_wo w_nu ln bs tk lw li a1 y_6942 (rg_w b_ln (by decide) (by decide)) b_bs b_tk b_lw b_a1 b_y_6942 (hw0) (hw1) (hw2) (hw3) (hw4) (hwz)) (cwV 2 hts gX10_worn__X10_isTold_V372 rfl rfl rfl hd_yX10_isTold ⟨lel 2 3 rfl, lel 47 71 rfl⟩) ⟨pw_fb, rcv_X10 hK hP (q0 := 0) rfl, (pw_use hP hK hN [0, 1, 4] rfl [0, 3] rfl)⟩ rfl rfl hl.1 rfl (lv_room (Nat.le_of_ble_eq_true rfl)) dX10_worn_72 ⟨lel 0 0 rfl, lel 0 0 rfl⟩) (fun r_11545 h_r_11545 => ?_)
        have b_r_11545 := h_r_11545
        have b_r_11545 : (0 : Int) ≤ r_11545.toInt ∧ r_11545.toInt ≤ 1 := b_r_11545
        refine cutW (σ := Int32) (pc2 := 86) (st2 := fun v => [.int v, .int y_6943]) (cells2 := 0) (slots2 := 0) (fun v H locs ls => va_P (dC, dI) vwCl [(o0, .inr (8, [.int x_th, .ref mwo, .ref mim, .ref mhi, .ref mlu, .ref mtp, .int x_td, .ref mfv, .int x_sz, .int x_at, .int x_fr, .int x_to, .int x_va, .int x_fk, .int x_fp, .ref mfr, .ref mwt, .int x_wt, .int x_op, .int x_jo, .ref mfg, .ref mpl, .long x_dr, .ref mtm, .ref mfa, .ref mqu, .ref mmo, .ref mwy, .ref mwn, .ref mma, .ref mwi, .ref mnu, .ref mmv])), (mwo, .inl (c_wo, 1875, .inl w_wo)), (mlu, .inl (c_lu, 20000, .inl w_lu)), (mfg, .inl (c_fg, 12, .inl w_fg)), (mnu, .inl (c_nu, 240, .inr (.inl w_nu))), (mma, .inl (c_ma, 4, .inl w_ma))] H ∧ va_D A [(o0, .inr (8, [.int x_th, .ref mwo, .ref mim, .ref mhi, .ref mlu, .ref mtp, .int x_td, .ref mfv, .int x_sz, .int x_at, .int x_fr, .int x_to, .int x_va, .int x_fk, .int x_fp, .ref mfr, .ref mwt, .int x_wt, .int x_op, .int x_jo, .ref mfg, .ref mpl, .long x_dr, .ref mtm, .ref mfa, .ref mqu, .ref mmo, .ref mwy, .ref mwn, .ref mma, .ref mwi, .ref mnu, .ref mmv])), (mwo, .inl (c_wo, 1875, .inl w_wo)), (mlu, .inl (c_lu, 20000, .inl w_lu)), (mfg, .inl (c_fg, 12, .inl w_fg)), (mnu, .inl (c_nu, 240, .inr (.inl w_nu))), (mma, .inl (c_ma, 4, .inl w_ma))] ∧ va_S A s.heap H locs ∧ lv_has ls 10 [(9, .int y_6942), (8, .int y_6943), (7, .int (-1)), (6, .int 0), (5, .int 0), (4, .int r_5787), (0, .ref o0), (1, .int a1), (2, .int a2), (3, .int a3)]) (fun v H locs ls hI => ?_) (fun hj_86_11548 => ?_)
        ·
          obtain ⟨y_11548, rfl⟩ : ∃ z, z = v := ⟨_, rfl⟩
          obtain ⟨hP, hD, hS, hl⟩ := hI
          have hP : va_P (dC, dI) vwCl [(o0, .inr (8, [.int x_th, .ref mwo, .ref mim, .ref mhi, .ref mlu, .ref mtp, .int x_td, .ref mfv, .int x_sz, .int x_at, .int x_fr, .int x_to, .int x_va, .int x_fk, .int x_fp, .ref mfr, .ref mwt, .int x_wt, .int x_op, .int x_jo, .ref mfg, .ref mpl, .long x_dr, .ref mtm, .ref mfa, .ref mqu, .ref mmo, .ref mwy, .ref mwn, .ref mma, .ref mwi, .ref mnu, .ref mmv])), (mwo, .inl (c_wo, 1875, .inl w_wo)), (mlu, .inl (c_lu, 20000, .inl w_lu)), (mfg, .inl (c_fg, 12, .inl w_fg)), (mnu, .inl (c_nu, 240, .inr (.inl w_nu))), (mma, .inl (c_ma, 4, .inl w_ma))] H := hP
          have hD : va_D A [(o0, .inr (8, [.int x_th, .ref mwo, .ref mim, .ref mhi, .ref mlu, .ref mtp, .int x_td, .ref mfv, .int x_sz, .int x_at, .int x_fr, .int x_to, .int x_va, .int x_fk, .int x_fp, .ref mfr, .ref mwt, .int x_wt, .int x_op, .int x_jo, .ref mfg, .ref mpl, .long x_dr, .ref mtm, .ref mfa, .ref mqu, .ref mmo, .ref mwy, .ref mwn, .ref mma, .ref mwi, .ref mnu, .ref mmv])), (mwo, .inl (c_wo, 1875, .inl w_wo)), (mlu, .inl (c_lu, 20000, .inl w_lu)), (mfg, .inl (c_fg, 12, .inl w_fg)), (mnu, .inl (c_nu, 240, .inr (.inl w_nu))), (mma, .inl (c_ma, 4, .inl w_ma))] := hD
          have hl : lv_has ls 10 [(9, .int y_6942), (8, .int y_6943), (7, .int (-1)), (6, .int 0), (5, .int 0), (4, .int r_5787), (0, .ref o0), (1, .int a1), (2, .int a2), (3, .int a3)] := hl
          refine lv_ior hx hb dX10_worn_86 ?_
          refine lv_topi (fun z_11549 e_z_11549 => ?_)
          refine lv_istore (lv' := [(8, .int z_11549), (9, .int y_6942), (7, .int (-1)), (6, .int 0), (5, .int 0), (4, .int r_5787), (0, .ref o0), (1, .int a1), (2, .int a2), (3, .int a3)]) hx hb dX10_worn_87 hl (by decide) rfl (fun ls hl => ?_)
          obtain ⟨z_11550, e_z_11550⟩ : ∃ y : Int32, y = y_6942 + 1 := ⟨_, rfl⟩
          refine lv_iinc (v := z_11550) (lv' := [(9, .int z_11550), (8, .int z_11549), (7, .int (-1)), (6, .int 0), (5, .int 0), (4, .int r_5787), (0, .ref o0), (1, .int a1), (2, .int a2), (3, .int a3)]) hx hb dX10_worn_89 hl (k := 1) rfl (by rw [e_z_11550]; rfl) (by decide) rfl (fun ls hl => ?_)
          obtain ⟨q_z_11550, b_z_11550⟩ := ti_add (lo := 1) (hi := 12) e_z_11550 rfl (by decide : (1 : Int32).toInt = 1) b_y_6942 (by decide : (1 : Int) ≤ (1 : Int32).toInt ∧ (1 : Int32).toInt ≤ 1) (by decide)
          refine lv_goto (tgt := 55) hx hb dX10_worn_92 (by decide) ?_
          exact ih_55_10399 (z_11550, z_11549) _ _ _ ⟨(show (0 : Int) ≤ z_11550.toInt ∧ z_11550.toInt ≤ 12 from (rg_w b_z_11550 (by decide) (by decide))), hP, hD, hS, lv_sub hl [0, 1, 2, 3, 4, 5, 6, 7, 8, 9] rfl⟩ (show (12 - z_11550.toInt).toNat < (12 - y_6942.toInt).toNat by omega)
        ·
          refine lv_if_eq (tgt := 82) hx hb dX10_worn_75 (by decide) (fun c_11546 => ?_) (fun c_11546 => ?_)
          ·
            have n_c_11546 : (r_11545.toInt : Int) = 0 := c_eq rfl (by decide) c_11546
            have b_r_11545 : (0 : Int) ≤ r_11545.toInt ∧ r_11545.toInt ≤ 0 := r_eq1 b_r_11545 (by decide : (0 : Int) ≤ (0 : Int32).toInt ∧ (0 : Int32).toInt ≤ 0) n_c_11546 (by decide)
            refine lv_iconst (v := 1) hx hb dX10_worn_82 (by decide) ?_
            refine lv_iload hx hb dX10_worn_83 (lv_at hl 0 rfl) ?_
            refine lv_ishl hx hb dX10_worn_85 ?_
            refine lv_topi (fun z_11551 e_z_11551 => ?_)
            exact hj_86_11548 z_11551 _ _ _ ⟨hP, hD, hS, lv_sub hl [0, 1, 2, 3, 4, 5, 6, 7, 8, 9] rfl⟩
          ·
            have n_c_11546 : (r_11545.toInt : Int) ≠ 0 := c_ne rfl (by decide) c_11546
            have b_r_11545 : (1 : Int) ≤ r_11545.toInt ∧ r_11545.toInt ≤ 1 := r_ne1 b_r_11545 (by decide : (0 : Int) ≤ (0 : Int32).toInt ∧ (0 : Int32).toInt ≤ 0) n_c_11546 (by decide)
            refine lv_iconst (v := 0) hx hb dX10_worn_78 (by decide) ?_
            refine lv_goto (tgt := 86) hx hb dX10_worn_79 (by decide) ?_
            exact hj_86_11548 (0 : Int32) _ _ _ ⟨hP, hD, hS, lv_sub hl [0, 1, 2, 3, 4, 5, 6, 7, 8, 9] rfl⟩
    ·
      have n_c_5788 : (r_5787.toInt : Int) < 0 := c_nge rfl (by decide) c_5788
      have b_r_5787 : (-7 : Int) ≤ r_5787.toInt ∧ r_5787.toInt ≤ -1 := r_lt1 b_r_5787 (by decide : (0 : Int) ≤ (0 : Int32).toInt ∧ (0 : Int32).toInt ≤ 0) n_c_5788 (by decide)
      refine lv_iload hx hb dX10_worn_37 (lv_at hl 0 rfl) ?_
      have hP9 := hP.sub (ws' := [(o0, .inr (8, [.int x_th, .ref mwo, .ref mim, .ref mhi, .ref mlu, .ref mtp, .int x_td, .ref mfv, .int x_sz, .int x_at, .int x_fr, .int x_to, .int x_va, .int x_fk, .int x_fp, .ref mfr, .ref mwt, .int x_wt, .int x_op, .int x_jo, .ref mfg, .ref mpl, .long x_dr, .ref mtm, .ref mfa, .ref mqu, .ref mmo, .ref mwy, .ref mwn, .ref mma, .ref mwi, .ref mnu, .ref mmv])), (mwo, .inl (c_wo, 1875, .inl w_wo)), (mlu, .inl (c_lu, 20000, .inl w_lu)), (mfg, .inl (c_fg, 12, .inl w_fg)), (mnu, .inl (c_nu, 240, .inr (.inl w_nu))), (mma, .inl (c_ma, 4, .inl w_ma))]) [0, 1, 2, 3, 4, 5] rfl
      have hD9 := hD.sub (ws' := [(o0, .inr (8, [.int x_th, .ref mwo, .ref mim, .ref mhi, .ref mlu, .ref mtp, .int x_td, .ref mfv, .int x_sz, .int x_at, .int x_fr, .int x_to, .int x_va, .int x_fk, .int x_fp, .ref mfr, .ref mwt, .int x_wt, .int x_op, .int x_jo, .ref mfg, .ref mpl, .long x_dr, .ref mtm, .ref mfa, .ref mqu, .ref mmo, .ref mwy, .ref mwn, .ref mma, .ref mwi, .ref mnu, .ref mmv])), (mwo, .inl (c_wo, 1875, .inl w_wo)), (mlu, .inl (c_lu, 20000, .inl w_lu)), (mfg, .inl (c_fg, 12, .inl w_fg)), (mnu, .inl (c_nu, 240, .inr (.inl w_nu))), (mma, .inl (c_ma, 4, .inl w_ma))]) [0, 1, 2, 3, 4, 5] (by decide) rfl
      have hK9 := hK.sub (tys' := [(c_wo, .int), (c_lu, .int), (c_fg, .int), (c_nu, .long), (c_ma, .int)]) [0, 1, 2, 3, 4] rfl
      exact W.iret (v := r_5787) hx hb hr (fun t ht hW => ⟨⟨r_5787, (), rfl, trivial, w_fg, ha_mfg, by rw [ht]; exact hP9, va_K.moved hW.alike hK9, hD9⟩, hS.F ht⟩) hS.2.2 dX10_worn_39
  ·
    refine lv_if_eq (tgt := 26) hx hb dX10_worn_7 (by decide) (fun c_5780 => ?_) (fun c_5780 => ?_)
    ·
      have n_c_5780 : (r_5779.toInt : Int) = 0 := c_eq rfl (by decide) c_5780
      have b_r_5779 : (0 : Int) ≤ r_5779.toInt ∧ r_5779.toInt ≤ 0 := r_eq1 b_r_5779 (by decide : (0 : Int) ≤ (0 : Int32).toInt ∧ (0 : Int32).toInt ≤ 0) n_c_5780 (by decide)
      refine lv_iconst (v := 0) hx hb dX10_worn_26 (by decide) ?_
      exact hj_27_5786 (0 : Int32) _ _ _ ⟨(show (0 : Int) ≤ (0 : Int32).toInt ∧ (0 : Int32).toInt ≤ 1 from (rg_w (by decide : (0 : Int) ≤ (0 : Int32).toInt ∧ (0 : Int32).toInt ≤ 0) (by decide) (by decide))), hP, hD, hS, lv_sub hl [0, 1, 2, 3] rfl⟩
    ·
      have n_c_5780 : (r_5779.toInt : Int) ≠ 0 := c_ne rfl (by decide) c_5780
      have b_r_5779 : (1 : Int) ≤ r_5779.toInt ∧ r_5779.toInt ≤ 1 := r_ne1 b_r_5779 (by decide : (0 : Int) ≤ (0 : Int32).toInt ∧ (0 : Int32).toInt ≤ 0) n_c_5780 (by decide)
      obtain ⟨b_a2, g_11552⟩ := nz_r_5779 c_5780
      refine lv_iload_n hx hb dX10_worn_10 rfl (lv_at hl 3 rfl) ?_
      obtain ⟨z_11553, e_z_11553⟩ : ∃ y : Int64, y = a3.toInt64 := ⟨_, rfl⟩
      refine lv_i2l (v := z_11553) hx hb dX10_worn_11 e_z_11553.symm ?_
      obtain ⟨q_z_11553, b_z_11553⟩ := ti_i2l e_z_11553 (ti_rng a3)
      refine lv_lconst (v := 0) hx hb dX10_worn_12 (by decide) ?_
      refine lv_ldc2 (v := 3) hx hb hown (hts (.constantLong RX10 375 (3)) (List.mem_of_getElem? (i := 5) rfl)) dX10_worn_13 ?_
      refine vp_callSi (W.runS (As := [.long z_11553, .long 0, .long 3]) (rest := [.int a1, .ref o0]) ⟨hx, hb, hml, hown, hts⟩ (kX10_in l dC dI z_11553 0 3 ) (va_cwS 3 hts gX10_worn__X10_in_S82 rfl rfl rfl hd_yX10_in.2 ⟨lel 1 3 rfl, lel 25 71 rfl⟩) ⟨pn_fb, pn_use⟩ rfl rfl hl.1 rfl (lv_room (Nat.le_of_ble_eq_true rfl)) dX10_worn_16 ⟨lel 0 0 rfl, lel 0 0 rfl⟩) (fun r_11554 h_r_11554 => ?_)
      obtain ⟨b_r_11554, nz_r_11554⟩ := h_r_11554
      have b_r_11554 : (0 : Int) ≤ r_11554.toInt ∧ r_11554.toInt ≤ 1 := b_r_11554
      refine lv_if_eq (tgt := 26) hx hb dX10_worn_19 (by decide) (fun c_11555 => ?_) (fun c_11555 => ?_)
      ·
        have n_c_11555 : (r_11554.toInt : Int) = 0 := c_eq rfl (by decide) c_11555
        have b_r_11554 : (0 : Int) ≤ r_11554.toInt ∧ r_11554.toInt ≤ 0 := r_eq1 b_r_11554 (by decide : (0 : Int) ≤ (0 : Int32).toInt ∧ (0 : Int32).toInt ≤ 0) n_c_11555 (by decide)
        refine lv_iconst (v := 0) hx hb dX10_worn_26 (by decide) ?_
        exact hj_27_5786 (0 : Int32) _ _ _ ⟨(show (0 : Int) ≤ (0 : Int32).toInt ∧ (0 : Int32).toInt ≤ 1 from (rg_w (by decide : (0 : Int) ≤ (0 : Int32).toInt ∧ (0 : Int32).toInt ≤ 0) (by decide) (by decide))), hP, hD, hS, lv_sub hl [0, 1, 2, 3] rfl⟩
      ·
        have n_c_11555 : (r_11554.toInt : Int) ≠ 0 := c_ne rfl (by decide) c_11555
        have b_r_11554 : (1 : Int) ≤ r_11554.toInt ∧ r_11554.toInt ≤ 1 := r_ne1 b_r_11554 (by decide : (0 : Int) ≤ (0 : Int32).toInt ∧ (0 : Int32).toInt ≤ 0) n_c_11555 (by decide)
        have g_11556 := nz_r_11554 c_11555
        have lt0_g_11556 := (by decide : (0 : Int64).toInt = 0)
        have lt1_g_11556 := (by decide : (3 : Int64).toInt = 3)
        have b_z_11553 : (0 : Int) ≤ z_11553.toInt ∧ z_11553.toInt ≤ 3 := by
          have q0 := b_z_11553
          have q1 := (by decide : (0 : Int) ≤ (0 : Int64).toInt ∧ (0 : Int64).toInt ≤ 0)
          have q2 := (by decide : (3 : Int) ≤ (3 : Int64).toInt ∧ (3 : Int64).toInt ≤ 3)
          omega
        have b_a3 : (0 : Int) ≤ a3.toInt ∧ a3.toInt ≤ 3 := by
          have q0 := b_z_11553; have q1 := q_z_11553; have q2 := (ti_rng a3); omega
        refine lv_iconst (v := 1) hx hb dX10_worn_22 (by decide) ?_
        refine lv_goto (tgt := 27) hx hb dX10_worn_23 (by decide) ?_
        exact hj_27_5786 (1 : Int32) _ _ _ ⟨(show (0 : Int) ≤ (1 : Int32).toInt ∧ (1 : Int32).toInt ≤ 1 from (rg_w (by decide : (1 : Int) ≤ (1 : Int32).toInt ∧ (1 : Int32).toInt ≤ 1) (by decide) (by decide))), hP, hD, hS, lv_sub hl [0, 1, 2, 3] rfl⟩
theorem dX10_likely_0 : decode cX10_likely 0 = .ok (.aload_n 0, 1) := by decide +kernel
theorem dX10_likely_1 : decode cX10_likely 1 = .ok (.iload_n 1, 1) := by decide +kernel
theorem dX10_likely_2 : decode cX10_likely 2 = .ok (.aload_n 0, 1) := by decide +kernel
theorem dX10_likely_3 : decode cX10_likely 3 = .ok (.iload_n 2, 1) := by decide +kernel
theorem dX10_likely_4 : decode cX10_likely 4 = .ok (.invokevirtual 89, 3) := by decide +kernel
theorem dX10_likely_7 : decode cX10_likely 7 = .ok (.ifCond .eq 34, 3) := by decide +kernel
theorem dX10_likely_10 : decode cX10_likely 10 = .ok (.aload_n 0, 1) := by decide +kernel
theorem dX10_likely_11 : decode cX10_likely 11 = .ok (.iload_n 3, 1) := by decide +kernel
theorem dX10_likely_12 : decode cX10_likely 12 = .ok (.invokevirtual 308, 3) := by decide +kernel
theorem dX10_likely_15 : decode cX10_likely 15 = .ok (.ifCond .eq 26, 3) := by decide +kernel
theorem dX10_likely_18 : decode cX10_likely 18 = .ok (.iload 4, 2) := by decide +kernel
theorem dX10_likely_20 : decode cX10_likely 20 = .ok (.i2l, 1) := by decide +kernel
theorem dX10_likely_21 : decode cX10_likely 21 = .ok (.lconst 0, 1) := by decide +kernel
theorem dX10_likely_22 : decode cX10_likely 22 = .ok (.aload_n 0, 1) := by decide +kernel
theorem dX10_likely_23 : decode cX10_likely 23 = .ok (.getfield 9, 3) := by decide +kernel
theorem dX10_likely_26 : decode cX10_likely 26 = .ok (.iconst 1, 1) := by decide +kernel
theorem dX10_likely_27 : decode cX10_likely 27 = .ok (.iaload, 1) := by decide +kernel
theorem dX10_likely_28 : decode cX10_likely 28 = .ok (.iconst 1, 1) := by decide +kernel
theorem dX10_likely_29 : decode cX10_likely 29 = .ok (.isub, 1) := by decide +kernel
theorem dX10_likely_30 : decode cX10_likely 30 = .ok (.i2l, 1) := by decide +kernel
theorem dX10_likely_31 : decode cX10_likely 31 = .ok (.invokestatic 82, 3) := by decide +kernel
theorem dX10_likely_34 : decode cX10_likely 34 = .ok (.ifCond .eq 7, 3) := by decide +kernel
theorem dX10_likely_37 : decode cX10_likely 37 = .ok (.iconst 1, 1) := by decide +kernel
theorem dX10_likely_38 : decode cX10_likely 38 = .ok (.goto 4, 3) := by decide +kernel
theorem dX10_likely_41 : decode cX10_likely 41 = .ok (.iconst 0, 1) := by decide +kernel
theorem dX10_likely_42 : decode cX10_likely 42 = .ok (.invokevirtual 377, 3) := by decide +kernel
theorem dX10_likely_45 : decode cX10_likely 45 = .ok (.istore 5, 2) := by decide +kernel
theorem dX10_likely_47 : decode cX10_likely 47 = .ok (.iload 5, 2) := by decide +kernel
theorem dX10_likely_49 : decode cX10_likely 49 = .ok (.ifCond .ge 6, 3) := by decide +kernel
theorem dX10_likely_52 : decode cX10_likely 52 = .ok (.iload 5, 2) := by decide +kernel
theorem dX10_likely_54 : decode cX10_likely 54 = .ok (.ireturn, 1) := by decide +kernel
theorem dX10_likely_55 : decode cX10_likely 55 = .ok (.iconst 0, 1) := by decide +kernel
theorem dX10_likely_56 : decode cX10_likely 56 = .ok (.istore 6, 2) := by decide +kernel
theorem dX10_likely_58 : decode cX10_likely 58 = .ok (.iconst 0, 1) := by decide +kernel
theorem dX10_likely_59 : decode cX10_likely 59 = .ok (.istore 7, 2) := by decide +kernel
theorem dX10_likely_61 : decode cX10_likely 61 = .ok (.iload 7, 2) := by decide +kernel
theorem dX10_likely_63 : decode cX10_likely 63 = .ok (.aload_n 0, 1) := by decide +kernel
theorem dX10_likely_64 : decode cX10_likely 64 = .ok (.getfield 9, 3) := by decide +kernel
theorem dX10_likely_67 : decode cX10_likely 67 = .ok (.iconst 2, 1) := by decide +kernel
theorem dX10_likely_68 : decode cX10_likely 68 = .ok (.iaload, 1) := by decide +kernel
theorem dX10_likely_69 : decode cX10_likely 69 = .ok (.if_icmp .ge 50, 3) := by decide +kernel
theorem dX10_likely_72 : decode cX10_likely 72 = .ok (.iload 6, 2) := by decide +kernel
theorem dX10_likely_74 : decode cX10_likely 74 = .ok (.aload_n 0, 1) := by decide +kernel
theorem dX10_likely_75 : decode cX10_likely 75 = .ok (.iload_n 2, 1) := by decide +kernel
theorem dX10_likely_76 : decode cX10_likely 76 = .ok (.iload 7, 2) := by decide +kernel
theorem dX10_likely_78 : decode cX10_likely 78 = .ok (.invokevirtual 316, 3) := by decide +kernel
theorem dX10_likely_81 : decode cX10_likely 81 = .ok (.ifCond .eq 28, 3) := by decide +kernel
theorem dX10_likely_84 : decode cX10_likely 84 = .ok (.aload_n 0, 1) := by decide +kernel
theorem dX10_likely_85 : decode cX10_likely 85 = .ok (.iload_n 1, 1) := by decide +kernel
theorem dX10_likely_86 : decode cX10_likely 86 = .ok (.iload 7, 2) := by decide +kernel
theorem dX10_likely_88 : decode cX10_likely 88 = .ok (.invokevirtual 381, 3) := by decide +kernel
theorem dX10_likely_91 : decode cX10_likely 91 = .ok (.ifCond .eq 18, 3) := by decide +kernel
theorem dX10_likely_94 : decode cX10_likely 94 = .ok (.aload_n 0, 1) := by decide +kernel
theorem dX10_likely_95 : decode cX10_likely 95 = .ok (.getfield 40, 3) := by decide +kernel
theorem dX10_likely_98 : decode cX10_likely 98 = .ok (.iload_n 3, 1) := by decide +kernel
theorem dX10_likely_99 : decode cX10_likely 99 = .ok (.iaload, 1) := by decide +kernel
theorem dX10_likely_100 : decode cX10_likely 100 = .ok (.iload 4, 2) := by decide +kernel
theorem dX10_likely_102 : decode cX10_likely 102 = .ok (.if_icmp .ne 7, 3) := by decide +kernel
theorem dX10_likely_105 : decode cX10_likely 105 = .ok (.iconst 1, 1) := by decide +kernel
theorem dX10_likely_106 : decode cX10_likely 106 = .ok (.goto 4, 3) := by decide +kernel
theorem dX10_likely_109 : decode cX10_likely 109 = .ok (.iconst 0, 1) := by decide +kernel
theorem dX10_likely_110 : decode cX10_likely 110 = .ok (.iadd, 1) := by decide +kernel
theorem dX10_likely_111 : decode cX10_likely 111 = .ok (.istore 6, 2) := by decide +kernel
theorem dX10_likely_113 : decode cX10_likely 113 = .ok (.iinc 7 1, 3) := by decide +kernel
theorem dX10_likely_116 : decode cX10_likely 116 = .ok (.goto (-55), 3) := by decide +kernel
theorem dX10_likely_119 : decode cX10_likely 119 = .ok (.iload 6, 2) := by decide +kernel
theorem dX10_likely_121 : decode cX10_likely 121 = .ok (.ireturn, 1) := by decide +kernel
theorem hd_yX10_likely : yX10_likely.cls = RX10 ∧ yX10_likely.cls ≠ "java/lang/invoke/MethodHandle" ∧ yX10_likely.cls ≠ "java/lang/invoke/VarHandle" ∧ (parseMethodDescriptor yX10_likely.desc).map (fun d => d.parameters.length) = some 4 := by decide +kernel
def uX10_likely : List Cond := List.cons (.code yX10_likely cX10_likely 8 (some .int)) (HAppend.hAppend ([.methodLink RX10 89 yX10_isLaw, .instanceMethod yX10_isLaw, .selects RX10 yX10_isLaw yX10_isLaw, .initialized RX10, .methodLink RX10 308 yX10_isPlace, .instanceMethod yX10_isPlace, .selects RX10 yX10_isPlace yX10_isPlace, .fieldLink RX10 9 "LuckyTicketModel" "world" "[I", .methodLink RX10 82 yX10_in, .static yX10_in, .methodLink RX10 377 yX10_asksWorn, .instanceMethod yX10_asksWorn, .selects RX10 yX10_asksWorn yX10_asksWorn, .methodLink RX10 316 yX10_isLucky, .instanceMethod yX10_isLucky, .selects RX10 yX10_isLucky yX10_isLucky, .methodLink RX10 381 yX10_canBe, .instanceMethod yX10_canBe, .selects RX10 yX10_canBe yX10_canBe, .fieldLink RX10 40 "LuckyTicketModel" "figures" "[I"] : List Cond) (HAppend.hAppend uX10_isLaw (HAppend.hAppend uX10_isPlace (HAppend.hAppend uX10_in (HAppend.hAppend uX10_asksWorn (HAppend.hAppend uX10_isLucky (HAppend.hAppend uX10_canBe wsX100)))))))
theorem iX10_likely_X10 : ∀ w ∈ wsX100, w ∈ uX10_likely := fun _ h => (List.mem_cons_of_mem _ (List.mem_append_right _ (List.mem_append_right _ (List.mem_append_right _ (List.mem_append_right _ (List.mem_append_right _ (List.mem_append_right _ (List.mem_append_right _ h))))))))
theorem guX10_likely : GU uX10_likely := gu_cons (gu_app (by decide +kernel) (gu_ap guX10_isLaw (gu_ap guX10_isPlace (gu_ap guX10_in (gu_ap guX10_asksWorn (gu_ap guX10_isLucky (gu_ap guX10_canBe gws_X10)))))))
theorem gX10_likely__X10_isLaw_V89 : GoodIn uX10_likely (wsV RX10 89 RX10 yX10_isLaw uX10_isLaw) := gin_V (List.mem_of_getElem? (i := 1) rfl) (List.mem_of_getElem? (i := 2) rfl) (List.mem_of_getElem? (i := 3) rfl) (List.mem_of_getElem? (i := 4) rfl) (fun _ h => (List.mem_cons_of_mem _ (List.mem_append_right _ (List.mem_append_left _ h)))) guX10_isLaw
theorem gX10_likely__X10_isPlace_V308 : GoodIn uX10_likely (wsV RX10 308 RX10 yX10_isPlace uX10_isPlace) := gin_V (List.mem_of_getElem? (i := 5) rfl) (List.mem_of_getElem? (i := 6) rfl) (List.mem_of_getElem? (i := 7) rfl) (List.mem_of_getElem? (i := 4) rfl) (fun _ h => (List.mem_cons_of_mem _ (List.mem_append_right _ (List.mem_append_right _ (List.mem_append_left _ h))))) guX10_isPlace
theorem gX10_likely__X10_in_S82 : GoodIn uX10_likely (va_wsS RX10 82 yX10_in uX10_in) := gin_S (List.mem_of_getElem? (i := 9) rfl) (List.mem_of_getElem? (i := 10) rfl) (List.mem_of_getElem? (i := 4) rfl) (fun _ h => (List.mem_cons_of_mem _ (List.mem_append_right _ (List.mem_append_right _ (List.mem_append_right _ (List.mem_append_left _ h)))))) guX10_in
theorem gX10_likely__X10_asksWorn_V377 : GoodIn uX10_likely (wsV RX10 377 RX10 yX10_asksWorn uX10_asksWorn) := gin_V (List.mem_of_getElem? (i := 11) rfl) (List.mem_of_getElem? (i := 12) rfl) (List.mem_of_getElem? (i := 13) rfl) (List.mem_of_getElem? (i := 4) rfl) (fun _ h => (List.mem_cons_of_mem _ (List.mem_append_right _ (List.mem_append_right _ (List.mem_append_right _ (List.mem_append_right _ (List.mem_append_left _ h))))))) guX10_asksWorn
theorem gX10_likely__X10_isLucky_V316 : GoodIn uX10_likely (wsV RX10 316 RX10 yX10_isLucky uX10_isLucky) := gin_V (List.mem_of_getElem? (i := 14) rfl) (List.mem_of_getElem? (i := 15) rfl) (List.mem_of_getElem? (i := 16) rfl) (List.mem_of_getElem? (i := 4) rfl) (fun _ h => (List.mem_cons_of_mem _ (List.mem_append_right _ (List.mem_append_right _ (List.mem_append_right _ (List.mem_append_right _ (List.mem_append_right _ (List.mem_append_left _ h)))))))) guX10_isLucky
theorem gX10_likely__X10_canBe_V381 : GoodIn uX10_likely (wsV RX10 381 RX10 yX10_canBe uX10_canBe) := gin_V (List.mem_of_getElem? (i := 17) rfl) (List.mem_of_getElem? (i := 18) rfl) (List.mem_of_getElem? (i := 19) rfl) (List.mem_of_getElem? (i := 4) rfl) (fun _ h => (List.mem_cons_of_mem _ (List.mem_append_right _ (List.mem_append_right _ (List.mem_append_right _ (List.mem_append_right _ (List.mem_append_right _ (List.mem_append_right _ (List.mem_append_left _ h))))))))) guX10_canBe
set_option maxHeartbeats 4000000 in
set_option maxRecDepth 100000 in
theorem kX10_likely (l : Launch) (dC : Nat → ClassId) (dI : Nat → Nat → Nat) (o0 : Nat) (x_th : Int32) (mwo : Nat) (mim : Nat) (mhi : Nat) (mlu : Nat) (mtp : Nat) (x_td : Int32) (mfv : Nat) (x_sz : Int32) (x_at : Int32) (x_fr : Int32) (x_to : Int32) (x_va : Int32) (x_fk : Int32) (x_fp : Int32) (mfr : Nat) (mwt : Nat) (x_wt : Int32) (x_op : Int32) (x_jo : Int32) (mfg : Nat) (mpl : Nat) (x_dr : Int64) (mtm : Nat) (mfa : Nat) (mqu : Nat) (mmo : Nat) (mwy : Nat) (mwn : Nat) (mma : Nat) (mwi : Nat) (mnu : Nat) (mmv : Nat) (c_wo : ClassId) (c_lu : ClassId) (c_fg : ClassId) (c_nu : ClassId) (c_ma : ClassId) (w_wo : Nat → Int32) (w_lu : Nat → Int32) (w_fg : Nat → Int32) (w_nu : Nat → Int64) (w_ma : Nat → Int32) (ln : Int32) (bs : Int32) (tk : Int32) (lw : Int32) (li : Int32) (a1 : Int32) (a2 : Int32) (a3 : Int32) (a4 : Int32) (sz : Nat) (b_ln : (0 : Int) ≤ ln.toInt ∧ ln.toInt ≤ 12) (b_bs : (0 : Int) ≤ bs.toInt ∧ bs.toInt ≤ 16) (b_tk : (0 : Int) ≤ tk.toInt ∧ tk.toInt ≤ 20000) (b_lw : (0 : Int) ≤ lw.toInt ∧ lw.toInt ≤ 9) (ha_mfg : rg w_fg 12 0 15) (ha_mma : rg w_ma 4 (-1) 60) (hw0 : w_wo 0 = ln) (hw1 : w_wo 1 = bs) (hw2 : w_wo 2 = tk) (hw3 : w_wo 3 = lw) (hw4 : w_wo 4 = li) (hwz : (ln.toInt = 0 ∧ bs.toInt = 0 ∧ tk.toInt = 0 ∧ lw.toInt = 0) ∨ (1 ≤ ln.toInt ∧ 2 ≤ bs.toInt ∧ 1 ≤ tk.toInt)) : Met l yX10_likely uX10_likely ({ frames := 3, cells := 0, slots := 0, locals := 71 }) (va_Pc [.ref o0, .int a1, .int a2, .int a3, .int a4] (hw (dC, dI) vwCl [(o0, .inr (8, [.int x_th, .ref mwo, .ref mim, .ref mhi, .ref mlu, .ref mtp, .int x_td, .ref mfv, .int x_sz, .int x_at, .int x_fr, .int x_to, .int x_va, .int x_fk, .int x_fp, .ref mfr, .ref mwt, .int x_wt, .int x_op, .int x_jo, .ref mfg, .ref mpl, .long x_dr, .ref mtm, .ref mfa, .ref mqu, .ref mmo, .ref mwy, .ref mwn, .ref mma, .ref mwi, .ref mnu, .ref mmv])), (mwo, .inl (c_wo, 1875, .inl w_wo)), (mlu, .inl (c_lu, 20000, .inl w_lu)), (mfg, .inl (c_fg, 12, .inl w_fg)), (mnu, .inl (c_nu, 240, .inr (.inl w_nu))), (mma, .inl (c_ma, 4, .inl w_ma))] [(c_wo, .int), (c_lu, .int), (c_fg, .int), (c_nu, .long), (c_ma, .int)] sz)) (va_Qi (fun (r : Int32) (_ : Unit) => True) (fun (_ : Unit) t => ∃ (o0_ : Nat → Int32), (rg o0_ 12 0 15) ∧ va_P (dC, dI) vwCl [(o0, .inr (8, [.int x_th, .ref mwo, .ref mim, .ref mhi, .ref mlu, .ref mtp, .int x_td, .ref mfv, .int x_sz, .int x_at, .int x_fr, .int x_to, .int x_va, .int x_fk, .int x_fp, .ref mfr, .ref mwt, .int x_wt, .int x_op, .int x_jo, .ref mfg, .ref mpl, .long x_dr, .ref mtm, .ref mfa, .ref mqu, .ref mmo, .ref mwy, .ref mwn, .ref mma, .ref mwi, .ref mnu, .ref mmv])), (mwo, .inl (c_wo, 1875, .inl w_wo)), (mlu, .inl (c_lu, 20000, .inl w_lu)), (mfg, .inl (c_fg, 12, .inl o0_)), (mnu, .inl (c_nu, 240, .inr (.inl w_nu))), (mma, .inl (c_ma, 4, .inl w_ma))] t.heap ∧ va_K (dC, dI) vwCl [(c_wo, .int), (c_lu, .int), (c_fg, .int), (c_nu, .long), (c_ma, .int)] t ∧ va_D (va_A [(o0, .inr (8, [.int x_th, .ref mwo, .ref mim, .ref mhi, .ref mlu, .ref mtp, .int x_td, .ref mfv, .int x_sz, .int x_at, .int x_fr, .int x_to, .int x_va, .int x_fk, .int x_fp, .ref mfr, .ref mwt, .int x_wt, .int x_op, .int x_jo, .ref mfg, .ref mpl, .long x_dr, .ref mtm, .ref mfa, .ref mqu, .ref mmo, .ref mwy, .ref mwn, .ref mma, .ref mwi, .ref mnu, .ref mmv])), (mwo, .inl (c_wo, 1875, .inl w_wo)), (mlu, .inl (c_lu, 20000, .inl w_lu)), (mfg, .inl (c_fg, 12, .inl w_fg)), (mnu, .inl (c_nu, 240, .inr (.inl w_nu))), (mma, .inl (c_ma, 4, .inl w_ma))] sz) [(o0, .inr (8, [.int x_th, .ref mwo, .ref mim, .ref mhi, .ref mlu, .ref mtp, .int x_td, .ref mfv, .int x_sz, .int x_at, .int x_fr, .int x_to, .int x_va, .int x_fk, .int x_fp, .ref mfr, .ref mwt, .int x_wt, .int x_op, .int x_jo, .ref mfg, .ref mpl, .long x_dr, .ref mtm, .ref mfa, .ref mqu, .ref mmo, .ref mwy, .ref mwn, .ref mma, .ref mwi, .ref mnu, .ref mmv])), (mwo, .inl (c_wo, 1875, .inl w_wo)), (mlu, .inl (c_lu, 20000, .inl w_lu)), (mfg, .inl (c_fg, 12, .inl o0_)), (mnu, .inl (c_nu, 240, .inr (.inl w_nu))), (mma, .inl (c_ma, 4, .inl w_ma))]) (va_A [(o0, .inr (8, [.int x_th, .ref mwo, .ref mim, .ref mhi, .ref mlu, .ref mtp, .int x_td, .ref mfv, .int x_sz, .int x_at, .int x_fr, .int x_to, .int x_va, .int x_fk, .int x_fp, .ref mfr, .ref mwt, .int x_wt, .int x_op, .int x_jo, .ref mfg, .ref mpl, .long x_dr, .ref mtm, .ref mfa, .ref mqu, .ref mmo, .ref mwy, .ref mwn, .ref mma, .ref mwi, .ref mnu, .ref mmv])), (mwo, .inl (c_wo, 1875, .inl w_wo)), (mlu, .inl (c_lu, 20000, .inl w_lu)), (mfg, .inl (c_fg, 12, .inl w_fg)), (mnu, .inl (c_nu, 240, .inr (.inl w_nu))), (mma, .inl (c_ma, 4, .inl w_ma))] sz)) 0 0 (va_A [(o0, .inr (8, [.int x_th, .ref mwo, .ref mim, .ref mhi, .ref mlu, .ref mtp, .int x_td, .ref mfv, .int x_sz, .int x_at, .int x_fr, .int x_to, .int x_va, .int x_fk, .int x_fp, .ref mfr, .ref mwt, .int x_wt, .int x_op, .int x_jo, .ref mfg, .ref mpl, .long x_dr, .ref mtm, .ref mfa, .ref mqu, .ref mmo, .ref mwy, .ref mwn, .ref mma, .ref mwi, .ref mnu, .ref mmv])), (mwo, .inl (c_wo, 1875, .inl w_wo)), (mlu, .inl (c_lu, 20000, .inl w_lu)), (mfg, .inl (c_fg, 12, .inl w_fg)), (mnu, .inl (c_nu, 240, .inr (.inl w_nu))), (mma, .inl (c_ma, 4, .inl w_ma))] sz) := by
  refine Met.ofW (cc := cX10_likely) (maxL := 8) (ret := (some .int)) pn_X10 rfl ?_
  intro p e s m args below meth c s₁ B hml hv
  obtain ⟨rfl, hsz, hP, hK, hD0, hN⟩ := hv
  have hx := B.exec
  have hb := B.bytes
  have hr := B.returns
  have hts := atoms_spec (ws := uX10_likely) B.pre
  have hown : s.vm.findClass RX10 = some m.cls := hown_of B.named rfl
  have hlocks := B.notSynchronized
  subst hsz
  have hD := hD0.self (sz := s.heap.size)
  generalize hAe : va_A [(o0, .inr (8, [.int x_th, .ref mwo, .ref mim, .ref mhi, .ref mlu, .ref mtp, .int x_td, .ref mfv, .int x_sz, .int x_at, .int x_fr, .int x_to, .int x_va, .int x_fk, .int x_fp, .ref mfr, .ref mwt, .int x_wt, .int x_op, .int x_jo, .ref mfg, .ref mpl, .long x_dr, .ref mtm, .ref mfa, .ref mqu, .ref mmo, .ref mwy, .ref mwn, .ref mma, .ref mwi, .ref mnu, .ref mmv])), (mwo, .inl (c_wo, 1875, .inl w_wo)), (mlu, .inl (c_lu, 20000, .inl w_lu)), (mfg, .inl (c_fg, 12, .inl w_fg)), (mnu, .inl (c_nu, 240, .inr (.inl w_nu))), (mma, .inl (c_ma, 4, .inl w_ma))] s.heap.size = A at hD ⊢
  have hA : ∀ q : Nat, s.heap.size ≤ q → A q := fun q h => by rw [← hAe]; exact Or.inr h
  have hS : va_S A s.heap s.heap [] := va_S.rf
  have hP : va_P (dC, dI) vwCl [(o0, .inr (8, [.int x_th, .ref mwo, .ref mim, .ref mhi, .ref mlu, .ref mtp, .int x_td, .ref mfv, .int x_sz, .int x_at, .int x_fr, .int x_to, .int x_va, .int x_fk, .int x_fp, .ref mfr, .ref mwt, .int x_wt, .int x_op, .int x_jo, .ref mfg, .ref mpl, .long x_dr, .ref mtm, .ref mfa, .ref mqu, .ref mmo, .ref mwy, .ref mwn, .ref mma, .ref mwi, .ref mnu, .ref mmv])), (mwo, .inl (c_wo, 1875, .inl w_wo)), (mlu, .inl (c_lu, 20000, .inl w_lu)), (mfg, .inl (c_fg, 12, .inl w_fg)), (mnu, .inl (c_nu, 240, .inr (.inl w_nu))), (mma, .inl (c_ma, 4, .inl w_ma))] s.heap := hP
  have hl := lv_entry ([.ref o0, .int a1, .int a2, .int a3, .int a4]) (n := 8) (Nat.le_of_ble_eq_true rfl)
  rw [lg_entry_eq]
  generalize (lg_sl ([.ref o0, .int a1, .int a2, .int a3, .int a4]) ++ List.replicate (8 - (lg_sl ([.ref o0, .int a1, .int a2, .int a3, .int a4])).length) Slot.unset).toArray = ls at hl ⊢
  have hl : lv_has ls 8 [(0, .ref o0), (1, .int a1), (2, .int a2), (3, .int a3), (4, .int a4)] := hl
  refine lv_aload_n hx hb dX10_likely_0 rfl (lv_at hl 0 rfl) ?_
  refine lv_iload_n hx hb dX10_likely_1 rfl (lv_at hl 1 rfl) ?_
  refine lv_aload_n hx hb dX10_likely_2 rfl (lv_at hl 0 rfl) ?_
  refine lv_iload_n hx hb dX10_likely_3 rfl (lv_at hl 2 rfl) ?_
  refine vp_callSi (W.runV (As := [.int a2]) (rest := [.int a1, .ref o0]) ⟨hx, hb, hml, hown, hts⟩ (kX10_isLaw l dC dI o0 x_th mwo mim mhi mlu mtp x_td mfv x_sz x_at x_fr x_to x_va x_fk x_fp mfr mwt x_wt x_op x_jo mfg mpl x_dr mtm mfa mqu mmo mwy mwn mma mwi mnu mmv c_wo w_wo ln bs tk lw li a2 b_ln b_bs b_tk b_lw (hw0) (hw1) (hw2) (hw3) (hw4) (hwz)) (cwV 1 hts gX10_likely__X10_isLaw_V89 rfl rfl rfl hd_yX10_isLaw ⟨lel 2 3 rfl, lel 46 71 rfl⟩) ⟨pw_fb, rcv_X10 hK hP (q0 := 0) rfl, (pw_use hP hK hN [0, 1] rfl [0] rfl)⟩ rfl rfl hl.1 rfl (lv_room (Nat.le_of_ble_eq_true rfl)) dX10_likely_4 ⟨lel 0 0 rfl, lel 0 0 rfl⟩) (fun r_406 h_r_406 => ?_)
  obtain ⟨b_r_406, nz_r_406⟩ := h_r_406
  have b_r_406 : (0 : Int) ≤ r_406.toInt ∧ r_406.toInt ≤ 1 := b_r_406
  refine cutW (σ := Int32) (pc2 := 42) (st2 := fun v => [.int v, .int a1, .ref o0]) (cells2 := 0) (slots2 := 0) (fun v H locs ls => ((0 : Int) ≤ v.toInt ∧ v.toInt ≤ 1) ∧ (v.toInt = 0 ∨ (0 ≤ a3.toInt ∧ a3.toInt ≤ 11)) ∧ va_P (dC, dI) vwCl [(o0, .inr (8, [.int x_th, .ref mwo, .ref mim, .ref mhi, .ref mlu, .ref mtp, .int x_td, .ref mfv, .int x_sz, .int x_at, .int x_fr, .int x_to, .int x_va, .int x_fk, .int x_fp, .ref mfr, .ref mwt, .int x_wt, .int x_op, .int x_jo, .ref mfg, .ref mpl, .long x_dr, .ref mtm, .ref mfa, .ref mqu, .ref mmo, .ref mwy, .ref mwn, .ref mma, .ref mwi, .ref mnu, .ref mmv])), (mwo, .inl (c_wo, 1875, .inl w_wo)), (mlu, .inl (c_lu, 20000, .inl w_lu)), (mfg, .inl (c_fg, 12, .inl w_fg)), (mnu, .inl (c_nu, 240, .inr (.inl w_nu))), (mma, .inl (c_ma, 4, .inl w_ma))] H ∧ va_D A [(o0, .inr (8, [.int x_th, .ref mwo, .ref mim, .ref mhi, .ref mlu, .ref mtp, .int x_td, .ref mfv, .int x_sz, .int x_at, .int x_fr, .int x_to, .int x_va, .int x_fk, .int x_fp, .ref mfr, .ref mwt, .int x_wt, .int x_op, .int x_jo, .ref mfg, .ref mpl, .long x_dr, .ref mtm, .ref mfa, .ref mqu, .ref mmo, .ref mwy, .ref mwn, .ref mma, .ref mwi, .ref mnu, .ref mmv])), (mwo, .inl (c_wo, 1875, .inl w_wo)), (mlu, .inl (c_lu, 20000, .inl w_lu)), (mfg, .inl (c_fg, 12, .inl w_fg)), (mnu, .inl (c_nu, 240, .inr (.inl w_nu))), (mma, .inl (c_ma, 4, .inl w_ma))] ∧ va_S A s.heap H locs ∧ lv_has ls 8 [(0, .ref o0), (1, .int a1), (2, .int a2), (3, .int a3), (4, .int a4)]) (fun v H locs ls hI => ?_) (fun hj_42_419 => ?_)
  ·
    obtain ⟨y_419, rfl⟩ : ∃ z, z = v := ⟨_, rfl⟩
    obtain ⟨b_y_419, hbl, hP, hD, hS, hl⟩ := hI
    have b_y_419 : (0 : Int) ≤ y_419.toInt ∧ y_419.toInt ≤ 1 := b_y_419
    have hbl : y_419.toInt = 0 ∨ (0 ≤ a3.toInt ∧ a3.toInt ≤ 11) := hbl
    have hP : va_P (dC, dI) vwCl [(o0, .inr (8, [.int x_th, .ref mwo, .ref mim, .ref mhi, .ref mlu, .ref mtp, .int x_td, .ref mfv, .int x_sz, .int x_at, .int x_fr, .int x_to, .int x_va, .int x_fk, .int x_fp, .ref mfr, .ref mwt, .int x_wt, .int x_op, .int x_jo, .ref mfg, .ref mpl, .long x_dr, .ref mtm, .ref mfa, .ref mqu, .ref mmo, .ref mwy, .ref mwn, .ref mma, .ref mwi, .ref mnu, .ref mmv])), (mwo, .inl (c_wo, 1875, .inl w_wo)), (mlu, .inl (c_lu, 20000, .inl w_lu)), (mfg, .inl (c_fg, 12, .inl w_fg)), (mnu, .inl (c_nu, 240, .inr (.inl w_nu))), (mma, .inl (c_ma, 4, .inl w_ma))] H := hP
    have hD : va_D A [(o0, .inr (8, [.int x_th, .ref mwo, .ref mim, .ref mhi, .ref mlu, .ref mtp, .int x_td, .ref mfv, .int x_sz, .int x_at, .int x_fr, .int x_to, .int x_va, .int x_fk, .int x_fp, .ref mfr, .ref mwt, .int x_wt, .int x_op, .int x_jo, .ref mfg, .ref mpl, .long x_dr, .ref mtm, .ref mfa, .ref mqu, .ref mmo, .ref mwy, .ref mwn, .ref mma, .ref mwi, .ref mnu, .ref mmv])), (mwo, .inl (c_wo, 1875, .inl w_wo)), (mlu, .inl (c_lu, 20000, .inl w_lu)), (mfg, .inl (c_fg, 12, .inl w_fg)), (mnu, .inl (c_nu, 240, .inr (.inl w_nu))), (mma, .inl (c_ma, 4, .inl w_ma))] := hD
    have hl : lv_has ls 8 [(0, .ref o0), (1, .int a1), (2, .int a2), (3, .int a3), (4, .int a4)] := hl
    refine vp_callSi (W.runV (As := [.int a1, .int y_419]) (rest := []) ⟨hx, hb, hml, hown, hts⟩ (kX10_asksWorn l dC dI o0 x_th mwo mim mhi mlu mtp x_td mfv x_sz x_at x_fr x_to x_va x_fk x_fp mfr mwt x_wt x_op x_jo mfg mpl x_dr mtm mfa mqu mmo mwy mwn mma mwi mnu mmv c_wo c_ma w_wo w_ma ln bs tk lw li a1 y_419 b_ln b_bs b_tk b_lw b_y_419 ha_mma (hw0) (hw1) (hw2) (hw3) (hw4) (hwz)) (cwV 2 hts gX10_likely__X10_asksWorn_V377 rfl rfl rfl hd_yX10_asksWorn ⟨lel 3 3 rfl, lel 67 71 rfl⟩) ⟨pw_fb, rcv_X10 hK hP (q0 := 0) rfl, (pw_use hP hK hN [0, 1, 5] rfl [0, 4] rfl)⟩ rfl rfl hl.1 rfl (lv_room (Nat.le_of_ble_eq_true rfl)) dX10_likely_42 ⟨lel 0 0 rfl, lel 0 0 rfl⟩) (fun r_420 h_r_420 => ?_)
    obtain ⟨b_r_420, zz_r_420⟩ := h_r_420
    have b_r_420 : (-7 : Int) ≤ r_420.toInt ∧ r_420.toInt ≤ 0 := b_r_420
    refine lv_istore (lv' := [(5, .int r_420), (0, .ref o0), (1, .int a1), (2, .int a2), (3, .int a3), (4, .int a4)]) hx hb dX10_likely_45 hl (by decide) rfl (fun ls hl => ?_)
    refine lv_iload hx hb dX10_likely_47 (lv_at hl 0 rfl) ?_
    refine lv_if_ge (tgt := 55) hx hb dX10_likely_49 (by decide) (fun c_421 => ?_) (fun c_421 => ?_)
    ·
      have n_c_421 : (0 : Int) ≤ r_420.toInt := c_ge rfl (by decide) c_421
      have b_r_420 : (0 : Int) ≤ r_420.toInt ∧ r_420.toInt ≤ 0 := r_le2 (by decide : (0 : Int) ≤ (0 : Int32).toInt ∧ (0 : Int32).toInt ≤ 0) b_r_420 n_c_421 (by decide)
      obtain ⟨b_a1, g_422⟩ := zz_r_420 (ti_z b_r_420)
      refine lv_iconst (v := 0) hx hb dX10_likely_55 (by decide) ?_
      refine lv_istore (lv' := [(6, .int 0), (5, .int r_420), (0, .ref o0), (1, .int a1), (2, .int a2), (3, .int a3), (4, .int a4)]) hx hb dX10_likely_56 hl (by decide) rfl (fun ls hl => ?_)
      refine lv_iconst (v := 0) hx hb dX10_likely_58 (by decide) ?_
      refine lv_istore (lv' := [(7, .int 0), (6, .int 0), (5, .int r_420), (0, .ref o0), (1, .int a1), (2, .int a2), (3, .int a3), (4, .int a4)]) hx hb dX10_likely_59 hl (by decide) rfl (fun ls hl => ?_)
      refine loopW (σ := Int32 × Int32 × (Nat → Int32)) (fun v => (20000 - v.1.toInt).toNat) (fun v H locs ls => ((0 : Int) ≤ v.1.toInt ∧ v.1.toInt ≤ 20000) ∧ (rg v.2.2 12 0 15) ∧ va_P (dC, dI) vwCl [(o0, .inr (8, [.int x_th, .ref mwo, .ref mim, .ref mhi, .ref mlu, .ref mtp, .int x_td, .ref mfv, .int x_sz, .int x_at, .int x_fr, .int x_to, .int x_va, .int x_fk, .int x_fp, .ref mfr, .ref mwt, .int x_wt, .int x_op, .int x_jo, .ref mfg, .ref mpl, .long x_dr, .ref mtm, .ref mfa, .ref mqu, .ref mmo, .ref mwy, .ref mwn, .ref mma, .ref mwi, .ref mnu, .ref mmv])), (mwo, .inl (c_wo, 1875, .inl w_wo)), (mlu, .inl (c_lu, 20000, .inl w_lu)), (mfg, .inl (c_fg, 12, .inl v.2.2)), (mnu, .inl (c_nu, 240, .inr (.inl w_nu))), (mma, .inl (c_ma, 4, .inl w_ma))] H ∧ va_D A [(o0, .inr (8, [.int x_th, .ref mwo, .ref mim, .ref mhi, .ref mlu, .ref mtp, .int x_td, .ref mfv, .int x_sz, .int x_at, .int x_fr, .int x_to, .int x_va, .int x_fk, .int x_fp, .ref mfr, .ref mwt, .int x_wt, .int x_op, .int x_jo, .ref mfg, .ref mpl, .long x_dr, .ref mtm, .ref mfa, .ref mqu, .ref mmo, .ref mwy, .ref mwn, .ref mma, .ref mwi, .ref mnu, .ref mmv])), (mwo, .inl (c_wo, 1875, .inl w_wo)), (mlu, .inl (c_lu, 20000, .inl w_lu)), (mfg, .inl (c_fg, 12, .inl v.2.2)), (mnu, .inl (c_nu, 240, .inr (.inl w_nu))), (mma, .inl (c_ma, 4, .inl w_ma))] ∧ va_S A s.heap H locs ∧ lv_has ls 8 [(7, .int v.1), (6, .int v.2.1), (5, .int r_420), (0, .ref o0), (1, .int a1), (2, .int a2), (3, .int a3), (4, .int a4)]) (fun v H locs ls hI ih_61_777 => ?_) ((0 : Int32), (0 : Int32), w_fg) ⟨(show (0 : Int) ≤ (0 : Int32).toInt ∧ (0 : Int32).toInt ≤ 20000 from (rg_w (by decide : (0 : Int) ≤ (0 : Int32).toInt ∧ (0 : Int32).toInt ≤ 0) (by decide) (by decide))), (show rg w_fg 12 0 15 from ha_mfg), hP, hD, hS, lv_sub hl [0, 1, 2, 3, 4, 5, 6, 7] rfl⟩
      obtain ⟨y_445, y_446, f_447⟩ := v
      obtain ⟨b_y_445, ha_f_447, hP, hD, hS, hl⟩ := hI
      have b_y_445 : (0 : Int) ≤ y_445.toInt ∧ y_445.toInt ≤ 20000 := b_y_445
      have ha_f_447 : rg f_447 12 0 15 := ha_f_447
      have hP : va_P (dC, dI) vwCl [(o0, .inr (8, [.int x_th, .ref mwo, .ref mim, .ref mhi, .ref mlu, .ref mtp, .int x_td, .ref mfv, .int x_sz, .int x_at, .int x_fr, .int x_to, .int x_va, .int x_fk, .int x_fp, .ref mfr, .ref mwt, .int x_wt, .int x_op, .int x_jo, .ref mfg, .ref mpl, .long x_dr, .ref mtm, .ref mfa, .ref mqu, .ref mmo, .ref mwy, .ref mwn, .ref mma, .ref mwi, .ref mnu, .ref mmv])), (mwo, .inl (c_wo, 1875, .inl w_wo)), (mlu, .inl (c_lu, 20000, .inl w_lu)), (mfg, .inl (c_fg, 12, .inl f_447)), (mnu, .inl (c_nu, 240, .inr (.inl w_nu))), (mma, .inl (c_ma, 4, .inl w_ma))] H := hP
      have hD : va_D A [(o0, .inr (8, [.int x_th, .ref mwo, .ref mim, .ref mhi, .ref mlu, .ref mtp, .int x_td, .ref mfv, .int x_sz, .int x_at, .int x_fr, .int x_to, .int x_va, .int x_fk, .int x_fp, .ref mfr, .ref mwt, .int x_wt, .int x_op, .int x_jo, .ref mfg, .ref mpl, .long x_dr, .ref mtm, .ref mfa, .ref mqu, .ref mmo, .ref mwy, .ref mwn, .ref mma, .ref mwi, .ref mnu, .ref mmv])), (mwo, .inl (c_wo, 1875, .inl w_wo)), (mlu, .inl (c_lu, 20000, .inl w_lu)), (mfg, .inl (c_fg, 12, .inl f_447)), (mnu, .inl (c_nu, 240, .inr (.inl w_nu))), (mma, .inl (c_ma, 4, .inl w_ma))] := hD
      have hl : lv_has ls 8 [(7, .int y_445), (6, .int y_446), (5, .int r_420), (0, .ref o0), (1, .int a1), (2, .int a2), (3, .int a3), (4, .int a4)] := hl
      refine lv_iload hx hb dX10_likely_61 (lv_at hl 0 rfl) ?_
      refine lv_aload_n hx hb dX10_likely_63 rfl (lv_at hl 3 rfl) ?_
      refine va_get (D := (dC, dI)) (ci := 8) (v := .ref mwo) (C := RX10) (T := TX10) (N := 33) hx hb hts iX10_likely_X10 hown hK hP 0 rfl rfl 1 (by decide) (hts (.fieldLink RX10 9 "LuckyTicketModel" "world" "[I") (List.mem_of_getElem? (i := 8) rfl)) (fun _ h9 => h9) rfl dX10_likely_64 ?_
      refine lv_iconst (v := 2) hx hb dX10_likely_67 (by decide) ?_
      refine va_iald hx hb hK hP 1 0 rfl rfl (vp_in_b (by decide : (2 : Int) ≤ (2 : Int32).toInt ∧ (2 : Int32).toInt ≤ 2) (by decide) (by decide)) dX10_likely_68 ?_
      refine lv_topi (fun z_778 e_z_778 => ?_)
      obtain rfl : tk = z_778 := (e_z_778.trans hw2).symm
      refine lv_icmp_ge (tgt := 119) hx hb dX10_likely_69 (by decide) (fun c_779 => ?_) (fun c_779 => ?_)
      ·
        have n_c_779 : (tk.toInt : Int) ≤ y_445.toInt := c_ge rfl rfl c_779
        refine lv_iload hx hb dX10_likely_119 (lv_at hl 1 rfl) ?_
        have hP9 := hP.sub (ws' := [(o0, .inr (8, [.int x_th, .ref mwo, .ref mim, .ref mhi, .ref mlu, .ref mtp, .int x_td, .ref mfv, .int x_sz, .int x_at, .int x_fr, .int x_to, .int x_va, .int x_fk, .int x_fp, .ref mfr, .ref mwt, .int x_wt, .int x_op, .int x_jo, .ref mfg, .ref mpl, .long x_dr, .ref mtm, .ref mfa, .ref mqu, .ref mmo, .ref mwy, .ref mwn, .ref mma, .ref mwi, .ref mnu, .ref mmv])), (mwo, .inl (c_wo, 1875, .inl w_wo)), (mlu, .inl (c_lu, 20000, .inl w_lu)), (mfg, .inl (c_fg, 12, .inl f_447)), (mnu, .inl (c_nu, 240, .inr (.inl w_nu))), (mma, .inl (c_ma, 4, .inl w_ma))]) [0, 1, 2, 3, 4, 5] rfl
        have hD9 := hD.sub (ws' := [(o0, .inr (8, [.int x_th, .ref mwo, .ref mim, .ref mhi, .ref mlu, .ref mtp, .int x_td, .ref mfv, .int x_sz, .int x_at, .int x_fr, .int x_to, .int x_va, .int x_fk, .int x_fp, .ref mfr, .ref mwt, .int x_wt, .int x_op, .int x_jo, .ref mfg, .ref mpl, .long x_dr, .ref mtm, .ref mfa, .ref mqu, .ref mmo, .ref mwy, .ref mwn, .ref mma, .ref mwi, .ref mnu, .ref mmv])), (mwo, .inl (c_wo, 1875, .inl w_wo)), (mlu, .inl (c_lu, 20000, .inl w_lu)), (mfg, .inl (c_fg, 12, .inl f_447)), (mnu, .inl (c_nu, 240, .inr (.inl w_nu))), (mma, .inl (c_ma, 4, .inl w_ma))]) [0, 1, 2, 3, 4, 5] (by decide) rfl
        have hK9 := hK.sub (tys' := [(c_wo, .int), (c_lu, .int), (c_fg, .int), (c_nu, .long), (c_ma, .int)]) [0, 1, 2, 3, 4] rfl
        exact W.iret (v := y_446) hx hb hr (fun t ht hW => ⟨⟨y_446, (), rfl, trivial, f_447, ha_f_447, by rw [ht]; exact hP9, va_K.moved hW.alike hK9, hD9⟩, hS.F ht⟩) hS.2.2 dX10_likely_121
      ·
        have n_c_779 : (y_445.toInt : Int) < tk.toInt := c_nge rfl rfl c_779
        have b_y_445 : (0 : Int) ≤ y_445.toInt ∧ y_445.toInt ≤ 19999 := r_lt1 b_y_445 b_tk n_c_779 (by decide)
        have b_tk : (1 : Int) ≤ tk.toInt ∧ tk.toInt ≤ 20000 := r_lt2 b_y_445 b_tk n_c_779 (by decide)
        refine lv_iload hx hb dX10_likely_72 (lv_at hl 1 rfl) ?_
        refine lv_aload_n hx hb dX10_likely_74 rfl (lv_at hl 3 rfl) ?_
        refine lv_iload_n hx hb dX10_likely_75 rfl (lv_at hl 5 rfl) ?_
        refine lv_iload hx hb dX10_likely_76 (lv_at hl 0 rfl) ?_
        refine vp_callSi (W.runV (As := [.int a2, .int y_445]) (rest := [.int y_446]) ⟨hx, hb, hml, hown, hts⟩ (kX10_isLucky l dC dI o0 x_th mwo mim mhi mlu mtp x_td mfv x_sz x_at x_fr x_to x_va x_fk x_fp mfr mwt x_wt x_op x_jo mfg mpl x_dr mtm mfa mqu mmo mwy mwn mma mwi mnu mmv c_wo c_lu w_wo w_lu ln bs tk lw li a2 y_445 b_ln b_bs (rg_w b_tk (by decide) (by decide)) b_lw b_y_445 (hw0) (hw1) (hw2) (hw3) (hw4) (hwz)) (cwV 2 hts gX10_likely__X10_isLucky_V316 rfl rfl rfl hd_yX10_isLucky ⟨lel 1 3 rfl, lel 22 71 rfl⟩) ⟨pw_fb, rcv_X10 hK hP (q0 := 0) rfl, (pw_use hP hK hN [0, 1, 2] rfl [0, 1] rfl)⟩ rfl rfl hl.1 rfl (lv_room (Nat.le_of_ble_eq_true rfl)) dX10_likely_78 ⟨lel 0 0 rfl, lel 0 0 rfl⟩) (fun r_780 h_r_780 => ?_)
        have b_r_780 := h_r_780
        have b_r_780 : (0 : Int) ≤ r_780.toInt ∧ r_780.toInt ≤ 1 := b_r_780
        refine cutW (σ := Int32 × (Nat → Int32)) (pc2 := 110) (st2 := fun v => [.int v.1, .int y_446]) (cells2 := 0) (slots2 := 0) (fun v H locs ls => ((0 : Int) ≤ v.1.toInt ∧ v.1.toInt ≤ 1) ∧ (rg v.2 12 0 15) ∧ va_P (dC, dI) vwCl [(o0, .inr (8, [.int x_th, .ref mwo, .ref mim, .ref mhi, .ref mlu, .ref mtp, .int x_td, .ref mfv, .int x_sz, .int x_at, .int x_fr, .int x_to, .int x_va, .int x_fk, .int x_fp, .ref mfr, .ref mwt, .int x_wt, .int x_op, .int x_jo, .ref mfg, .ref mpl, .long x_dr, .ref mtm, .ref mfa, .ref mqu, .ref mmo, .ref mwy, .ref mwn, .ref mma, .ref mwi, .ref mnu, .ref mmv])), (mwo, .inl (c_wo, 1875, .inl w_wo)), (mlu, .inl (c_lu, 20000, .inl w_lu)), (mfg, .inl (c_fg, 12, .inl v.2)), (mnu, .inl (c_nu, 240, .inr (.inl w_nu))), (mma, .inl (c_ma, 4, .inl w_ma))] H ∧ va_D A [(o0, .inr (8, [.int x_th, .ref mwo, .ref mim, .ref mhi, .ref mlu, .ref mtp, .int x_td, .ref mfv, .int x_sz, .int x_at, .int x_fr, .int x_to, .int x_va, .int x_fk, .int x_fp, .ref mfr, .ref mwt, .int x_wt, .int x_op, .int x_jo, .ref mfg, .ref mpl, .long x_dr, .ref mtm, .ref mfa, .ref mqu, .ref mmo, .ref mwy, .ref mwn, .ref mma, .ref mwi, .ref mnu, .ref mmv])), (mwo, .inl (c_wo, 1875, .inl w_wo)), (mlu, .inl (c_lu, 20000, .inl w_lu)), (mfg, .inl (c_fg, 12, .inl v.2)), (mnu, .inl (c_nu, 240, .inr (.inl w_nu))), (mma, .inl (c_ma, 4, .inl w_ma))] ∧ va_S A s.heap H locs ∧ lv_has ls 8 [(7, .int y_445), (6, .int y_446), (5, .int r_420), (0, .ref o0), (1, .int a1), (2, .int a2), (3, .int a3), (4, .int a4)]) (fun v H locs ls hI => ?_) (fun hj_110_790 => ?_)
        ·
          obtain ⟨y_789, f_790⟩ := v
          obtain ⟨b_y_789, ha_f_790, hP, hD, hS, hl⟩ := hI
          have b_y_789 : (0 : Int) ≤ y_789.toInt ∧ y_789.toInt ≤ 1 := b_y_789
          have ha_f_790 : rg f_790 12 0 15 := ha_f_790
          have hP : va_P (dC, dI) vwCl [(o0, .inr (8, [.int x_th, .ref mwo, .ref mim, .ref mhi, .ref mlu, .ref mtp, .int x_td, .ref mfv, .int x_sz, .int x_at, .int x_fr, .int x_to, .int x_va, .int x_fk, .int x_fp, .ref mfr, .ref mwt, .int x_wt, .int x_op, .int x_jo, .ref mfg, .ref mpl, .long x_dr, .ref mtm, .ref mfa, .ref mqu, .ref mmo, .ref mwy, .ref mwn, .ref mma, .ref mwi, .ref mnu, .ref mmv])), (mwo, .inl (c_wo, 1875, .inl w_wo)), (mlu, .inl (c_lu, 20000, .inl w_lu)), (mfg, .inl (c_fg, 12, .inl f_790)), (mnu, .inl (c_nu, 240, .inr (.inl w_nu))), (mma, .inl (c_ma, 4, .inl w_ma))] H := hP
          have hD : va_D A [(o0, .inr (8, [.int x_th, .ref mwo, .ref mim, .ref mhi, .ref mlu, .ref mtp, .int x_td, .ref mfv, .int x_sz, .int x_at, .int x_fr, .int x_to, .int x_va, .int x_fk, .int x_fp, .ref mfr, .ref mwt, .int x_wt, .int x_op, .int x_jo, .ref mfg, .ref mpl, .long x_dr, .ref mtm, .ref mfa, .ref mqu, .ref mmo, .ref mwy, .ref mwn, .ref mma, .ref mwi, .ref mnu, .ref mmv])), (mwo, .inl (c_wo, 1875, .inl w_wo)), (mlu, .inl (c_lu, 20000, .inl w_lu)), (mfg, .inl (c_fg, 12, .inl f_790)), (mnu, .inl (c_nu, 240, .inr (.inl w_nu))), (mma, .inl (c_ma, 4, .inl w_ma))] := hD
          have hl : lv_has ls 8 [(7, .int y_445), (6, .int y_446), (5, .int r_420), (0, .ref o0), (1, .int a1), (2, .int a2), (3, .int a3), (4, .int a4)] := hl
          refine lv_iadd hx hb dX10_likely_110 ?_
          refine lv_topi (fun z_791 e_z_791 => ?_)
          refine lv_istore (lv' := [(6, .int z_791), (7, .int y_445), (5, .int r_420), (0, .ref o0), (1, .int a1), (2, .int a2), (3, .int a3), (4, .int a4)]) hx hb dX10_likely_111 hl (by decide) rfl (fun ls hl => ?_)
          obtain ⟨z_792, e_z_792⟩ : ∃ y : Int32, y = y_445 + 1 := ⟨_, rfl⟩
          refine lv_iinc (v := z_792) (lv' := [(7, .int z_792), (6, .int z_791), (5, .int r_420), (0, .ref o0), (1, .int a1), (2, .int a2), (3, .int a3), (4, .int a4)]) hx hb dX10_likely_113 hl (k := 1) rfl (by rw [e_z_792]; rfl) (by decide) rfl (fun ls hl => ?_)
          obtain ⟨q_z_792, b_z_792⟩ := ti_add (lo := 1) (hi := 20000) e_z_792 rfl (by decide : (1 : Int32).toInt = 1) b_y_445 (by decide : (1 : Int) ≤ (1 : Int32).toInt ∧ (1 : Int32).toInt ≤ 1) (by decide)
          refine lv_goto (tgt := 61) hx hb dX10_likely_116 (by decide) ?_
          exact ih_61_777 (z_792, z_791, f_790) _ _ _ ⟨(show (0 : Int) ≤ z_792.toInt ∧ z_792.toInt ≤ 20000 from (rg_w b_z_792 (by decide) (by decide))), (show rg f_790 12 0 15 from ha_f_790), hP, hD, hS, lv_sub hl [0, 1, 2, 3, 4, 5, 6, 7] rfl⟩ (show (20000 - z_792.toInt).toNat < (20000 - y_445.toInt).toNat by omega)
        ·
          refine lv_if_eq (tgt := 109) hx hb dX10_likely_81 (by decide) (fun c_781 => ?_) (fun c_781 => ?_)
          ·
            have n_c_781 : (r_780.toInt : Int) = 0 := c_eq rfl (by decide) c_781
            have b_r_780 : (0 : Int) ≤ r_780.toInt ∧ r_780.toInt ≤ 0 := r_eq1 b_r_780 (by decide : (0 : Int) ≤ (0 : Int32).toInt ∧ (0 : Int32).toInt ≤ 0) n_c_781 (by decide)
            refine lv_iconst (v := 0) hx hb dX10_likely_109 (by decide) ?_
            exact hj_110_790 ((0 : Int32), f_447) _ _ _ ⟨(show (0 : Int) ≤ (0 : Int32).toInt ∧ (0 : Int32).toInt ≤ 1 from (rg_w (by decide : (0 : Int) ≤ (0 : Int32).toInt ∧ (0 : Int32).toInt ≤ 0) (by decide) (by decide))), (show rg f_447 12 0 15 from ha_f_447), hP, hD, hS, lv_sub hl [0, 1, 2, 3, 4, 5, 6, 7] rfl⟩
          ·
            have n_c_781 : (r_780.toInt : Int) ≠ 0 := c_ne rfl (by decide) c_781
            have b_r_780 : (1 : Int) ≤ r_780.toInt ∧ r_780.toInt ≤ 1 := r_ne1 b_r_780 (by decide : (0 : Int) ≤ (0 : Int32).toInt ∧ (0 : Int32).toInt ≤ 0) n_c_781 (by decide)
            refine lv_aload_n hx hb dX10_likely_84 rfl (lv_at hl 3 rfl) ?_
            refine lv_iload_n hx hb dX10_likely_85 rfl (lv_at hl 4 rfl) ?_
            refine lv_iload hx hb dX10_likely_86 (lv_at hl 0 rfl) ?_
            have hFc := va_free (wc := [(o0, .inr (8, [.int x_th, .ref mwo, .ref mim, .ref mhi, .ref mlu, .ref mtp, .int x_td, .ref mfv, .int x_sz, .int x_at, .int x_fr, .int x_to, .int x_va, .int x_fk, .int x_fp, .ref mfr, .ref mwt, .int x_wt, .int x_op, .int x_jo, .ref mfg, .ref mpl, .long x_dr, .ref mtm, .ref mfa, .ref mqu, .ref mmo, .ref mwy, .ref mwn, .ref mma, .ref mwi, .ref mnu, .ref mmv])), (mwo, .inl (c_wo, 1875, .inl w_wo)), (mfg, .inl (c_fg, 12, .inl f_447)), (mnu, .inl (c_nu, 240, .inr (.inl w_nu)))]) hD hS hA [0, 1, 3, 4] rfl
            refine va_calli (va_runV (As := [.int a1, .int y_445]) (rest := [.int y_446]) ⟨hx, hb, hml, hown, hts⟩ (kX10_canBe l dC dI o0 x_th mwo mim mhi mlu mtp x_td mfv x_sz x_at x_fr x_to x_va x_fk x_fp mfr mwt x_wt x_op x_jo mfg mpl x_dr mtm mfa mqu mmo mwy mwn mma mwi mnu mmv c_wo c_fg c_nu w_wo f_447 w_nu ln bs tk lw li a1 y_445 (H.size) b_ln b_bs (rg_w b_tk (by decide) (by decide)) b_lw b_a1 b_y_445 ha_f_447 (hw0) (hw1) (hw2) (hw3) (hw4) (hwz)) (cwV 2 hts gX10_likely__X10_canBe_V381 rfl rfl rfl hd_yX10_canBe ⟨lel 3 3 rfl, lel 71 71 rfl⟩) ⟨hw_fb, rcv_X10 hK hP (q0 := 0) rfl, (hw_use hP hD hK hN [0, 1, 3, 4] rfl (by decide) rfl [0, 2, 3] rfl)⟩ rfl rfl hl.1 rfl (lv_room (Nat.le_of_ble_eq_true rfl)) dX10_likely_88 ⟨lel 0 0 rfl, lel 0 0 rfl⟩) hS (fun q _ h => hFc q h) hFc (fun r_793 u_794 t H1 locs ht hvm hw_r_793 hB hz1 hk1 hS => ?_)
            obtain ⟨o0_795, ha_796, hP1, hK1, hD1⟩ := hB
            rw [ht] at hP1
            have hK1 := va_K.moved hvm.symm hK1
            obtain ⟨hP, hD⟩ := va_join (wr := [(mlu, .inl (c_lu, 20000, .inl w_lu)), (mma, .inl (c_ma, 4, .inl w_ma))]) (w1 := [(o0, .inr (8, [.int x_th, .ref mwo, .ref mim, .ref mhi, .ref mlu, .ref mtp, .int x_td, .ref mfv, .int x_sz, .int x_at, .int x_fr, .int x_to, .int x_va, .int x_fk, .int x_fp, .ref mfr, .ref mwt, .int x_wt, .int x_op, .int x_jo, .ref mfg, .ref mpl, .long x_dr, .ref mtm, .ref mfa, .ref mqu, .ref mmo, .ref mwy, .ref mwn, .ref mma, .ref mwi, .ref mnu, .ref mmv])), (mwo, .inl (c_wo, 1875, .inl w_wo)), (mfg, .inl (c_fg, 12, .inl o0_795)), (mnu, .inl (c_nu, 240, .inr (.inl w_nu)))]) hP hD [0, 1, 3, 4] [2, 5] rfl rfl (by decide) (by decide) hk1 hFc hP1 hD1
            have hK := (hK.sub (tys' := [(c_lu, .int), (c_ma, .int)]) [1, 4] rfl).app hK1
            generalize H1 = H at hP hS ⊢
            have hP := hP.sub (ws' := [(o0, .inr (8, [.int x_th, .ref mwo, .ref mim, .ref mhi, .ref mlu, .ref mtp, .int x_td, .ref mfv, .int x_sz, .int x_at, .int x_fr, .int x_to, .int x_va, .int x_fk, .int x_fp, .ref mfr, .ref mwt, .int x_wt, .int x_op, .int x_jo, .ref mfg, .ref mpl, .long x_dr, .ref mtm, .ref mfa, .ref mqu, .ref mmo, .ref mwy, .ref mwn, .ref mma, .ref mwi, .ref mnu, .ref mmv])), (mwo, .inl (c_wo, 1875, .inl w_wo)), (mlu, .inl (c_lu, 20000, .inl w_lu)), (mfg, .inl (c_fg, 12, .inl o0_795)), (mnu, .inl (c_nu, 240, .inr (.inl w_nu))), (mma, .inl (c_ma, 4, .inl w_ma))]) [2, 3, 0, 4, 5, 1] rfl
            have hD := hD.sub (ws' := [(o0, .inr (8, [.int x_th, .ref mwo, .ref mim, .ref mhi, .ref mlu, .ref mtp, .int x_td, .ref mfv, .int x_sz, .int x_at, .int x_fr, .int x_to, .int x_va, .int x_fk, .int x_fp, .ref mfr, .ref mwt, .int x_wt, .int x_op, .int x_jo, .ref mfg, .ref mpl, .long x_dr, .ref mtm, .ref mfa, .ref mqu, .ref mmo, .ref mwy, .ref mwn, .ref mma, .ref mwi, .ref mnu, .ref mmv])), (mwo, .inl (c_wo, 1875, .inl w_wo)), (mlu, .inl (c_lu, 20000, .inl w_lu)), (mfg, .inl (c_fg, 12, .inl o0_795)), (mnu, .inl (c_nu, 240, .inr (.inl w_nu))), (mma, .inl (c_ma, 4, .inl w_ma))]) [2, 3, 0, 4, 5, 1] (by decide) rfl
            have hK := hK.sub (tys' := [(c_wo, .int), (c_lu, .int), (c_fg, .int), (c_nu, .long), (c_ma, .int)]) [2, 0, 3, 4, 1] rfl
            have hP : va_P (dC, dI) vwCl [(o0, .inr (8, [.int x_th, .ref mwo, .ref mim, .ref mhi, .ref mlu, .ref mtp, .int x_td, .ref mfv, .int x_sz, .int x_at, .int x_fr, .int x_to, .int x_va, .int x_fk, .int x_fp, .ref mfr, .ref mwt, .int x_wt, .int x_op, .int x_jo, .ref mfg, .ref mpl, .long x_dr, .ref mtm, .ref mfa, .ref mqu, .ref mmo, .ref mwy, .ref mwn, .ref mma, .ref mwi, .ref mnu, .ref mmv])), (mwo, .inl (c_wo, 1875, .inl w_wo)), (mlu, .inl (c_lu, 20000, .inl w_lu)), (mfg, .inl (c_fg, 12, .inl o0_795)), (mnu, .inl (c_nu, 240, .inr (.inl w_nu))), (mma, .inl (c_ma, 4, .inl w_ma))] H := hP
            have hD : va_D A [(o0, .inr (8, [.int x_th, .ref mwo, .ref mim, .ref mhi, .ref mlu, .ref mtp, .int x_td, .ref mfv, .int x_sz, .int x_at, .int x_fr, .int x_to, .int x_va, .int x_fk, .int x_fp, .ref mfr, .ref mwt, .int x_wt, .int x_op, .int x_jo, .ref mfg, .ref mpl, .long x_dr, .ref mtm, .ref mfa, .ref mqu, .ref mmo, .ref mwy, .ref mwn, .ref mma, .ref mwi, .ref mnu, .ref mmv])), (mwo, .inl (c_wo, 1875, .inl w_wo)), (mlu, .inl (c_lu, 20000, .inl w_lu)), (mfg, .inl (c_fg, 12, .inl o0_795)), (mnu, .inl (c_nu, 240, .inr (.inl w_nu))), (mma, .inl (c_ma, 4, .inl w_ma))] := hD
            have hK : va_K (dC, dI) vwCl [(c_wo, .int), (c_lu, .int), (c_fg, .int), (c_nu, .long), (c_ma, .int)] s := hK
            have b_r_793 := hw_r_793
            have b_r_793 : (0 : Int) ≤ r_793.toInt ∧ r_793.toInt ≤ 1 := b_r_793
            refine lv_if_eq (tgt := 109) hx hb dX10_likely_91 (by decide) (fun c_797 => ?_) (fun c_797 => ?_)
            ·
              have n_c_797 : (r_793.toInt : Int) = 0 := c_eq rfl (by decide) c_797
              have b_r_793 : (0 : Int) ≤ r_793.toInt ∧ r_793.toInt ≤ 0 := r_eq1 b_r_793 (by decide : (0 : Int) ≤ (0 : Int32).toInt ∧ (0 : Int32).toInt ≤ 0) n_c_797 (by decide)
              refine lv_iconst (v := 0) hx hb dX10_likely_109 (by decide) ?_
              exact hj_110_790 ((0 : Int32), o0_795) _ _ _ ⟨(show (0 : Int) ≤ (0 : Int32).toInt ∧ (0 : Int32).toInt ≤ 1 from (rg_w (by decide : (0 : Int) ≤ (0 : Int32).toInt ∧ (0 : Int32).toInt ≤ 0) (by decide) (by decide))), (show rg o0_795 12 0 15 from ha_796), hP, hD, hS, lv_sub hl [0, 1, 2, 3, 4, 5, 6, 7] rfl⟩
            ·
              have n_c_797 : (r_793.toInt : Int) ≠ 0 := c_ne rfl (by decide) c_797
              have b_r_793 : (1 : Int) ≤ r_793.toInt ∧ r_793.toInt ≤ 1 := r_ne1 b_r_793 (by decide : (0 : Int) ≤ (0 : Int32).toInt ∧ (0 : Int32).toInt ≤ 0) n_c_797 (by decide)
              refine lv_aload_n hx hb dX10_likely_94 rfl (lv_at hl 3 rfl) ?_
              refine va_get (D := (dC, dI)) (ci := 8) (v := .ref mfg) (C := RX10) (T := TX10) (N := 33) hx hb hts iX10_likely_X10 hown hK hP 0 rfl rfl 20 (by decide) (hts (.fieldLink RX10 40 "LuckyTicketModel" "figures" "[I") (List.mem_of_getElem? (i := 20) rfl)) (fun _ h9 => h9) rfl dX10_likely_95 ?_
              refine lv_iload_n hx hb dX10_likely_98 rfl (lv_at hl 6 rfl) ?_
              refine va_iald hx hb hK hP 3 2 rfl rfl (vp_in_iff.mpr ⟨by omega, by omega⟩) dX10_likely_99 ?_
              refine lv_topi (fun z_798 e_z_798 => ?_)
              have b_z_798 : (0 : Int) ≤ z_798.toInt ∧ z_798.toInt ≤ 15 := rg_at ha_796 (vp_in_iff.mpr ⟨by omega, by omega⟩) e_z_798
              refine lv_iload hx hb dX10_likely_100 (lv_at hl 7 rfl) ?_
              refine lv_icmp_ne (tgt := 109) hx hb dX10_likely_102 (by decide) (fun c_799 => ?_) (fun c_799 => ?_)
              ·
                have n_c_799 : (z_798.toInt : Int) ≠ a4.toInt := c_ne rfl rfl c_799
                refine lv_iconst (v := 0) hx hb dX10_likely_109 (by decide) ?_
                exact hj_110_790 ((0 : Int32), o0_795) _ _ _ ⟨(show (0 : Int) ≤ (0 : Int32).toInt ∧ (0 : Int32).toInt ≤ 1 from (rg_w (by decide : (0 : Int) ≤ (0 : Int32).toInt ∧ (0 : Int32).toInt ≤ 0) (by decide) (by decide))), (show rg o0_795 12 0 15 from ha_796), hP, hD, hS, lv_sub hl [0, 1, 2, 3, 4, 5, 6, 7] rfl⟩
              ·
                have n_c_799 : (z_798.toInt : Int) = a4.toInt := c_eq rfl rfl c_799
                have b_a4 : (0 : Int) ≤ a4.toInt ∧ a4.toInt ≤ 15 := r_eq2 b_z_798 (ti_rng a4) n_c_799 (by decide)
                refine lv_iconst (v := 1) hx hb dX10_likely_105 (by decide) ?_
                refine lv_goto (tgt := 110) hx hb dX10_likely_106 (by decide) ?_
                exact hj_110_790 ((1 : Int32), o0_795) _ _ _ ⟨(show (0 : Int) ≤ (1 : Int32).toInt ∧ (1 : Int32).toInt ≤ 1 from (rg_w (by decide : (1 : Int) ≤ (1 : Int32).toInt ∧ (1 : Int32).toInt ≤ 1) (by decide) (by decide))), (show rg o0_795 12 0 15 from ha_796), hP, hD, hS, lv_sub hl [0, 1, 2, 3, 4, 5, 6, 7] rfl⟩
    ·
      have n_c_421 : (r_420.toInt : Int) < 0 := c_nge rfl (by decide) c_421
      have b_r_420 : (-7 : Int) ≤ r_420.toInt ∧ r_420.toInt ≤ -1 := r_lt1 b_r_420 (by decide : (0 : Int) ≤ (0 : Int32).toInt ∧ (0 : Int32).toInt ≤ 0) n_c_421 (by decide)
      refine lv_iload hx hb dX10_likely_52 (lv_at hl 0 rfl) ?_
      have hP9 := hP.sub (ws' := [(o0, .inr (8, [.int x_th, .ref mwo, .ref mim, .ref mhi, .ref mlu, .ref mtp, .int x_td, .ref mfv, .int x_sz, .int x_at, .int x_fr, .int x_to, .int x_va, .int x_fk, .int x_fp, .ref mfr, .ref mwt, .int x_wt, .int x_op, .int x_jo, .ref mfg, .ref mpl, .long x_dr, .ref mtm, .ref mfa, .ref mqu, .ref mmo, .ref mwy, .ref mwn, .ref mma, .ref mwi, .ref mnu, .ref mmv])), (mwo, .inl (c_wo, 1875, .inl w_wo)), (mlu, .inl (c_lu, 20000, .inl w_lu)), (mfg, .inl (c_fg, 12, .inl w_fg)), (mnu, .inl (c_nu, 240, .inr (.inl w_nu))), (mma, .inl (c_ma, 4, .inl w_ma))]) [0, 1, 2, 3, 4, 5] rfl
      have hD9 := hD.sub (ws' := [(o0, .inr (8, [.int x_th, .ref mwo, .ref mim, .ref mhi, .ref mlu, .ref mtp, .int x_td, .ref mfv, .int x_sz, .int x_at, .int x_fr, .int x_to, .int x_va, .int x_fk, .int x_fp, .ref mfr, .ref mwt, .int x_wt, .int x_op, .int x_jo, .ref mfg, .ref mpl, .long x_dr, .ref mtm, .ref mfa, .ref mqu, .ref mmo, .ref mwy, .ref mwn, .ref mma, .ref mwi, .ref mnu, .ref mmv])), (mwo, .inl (c_wo, 1875, .inl w_wo)), (mlu, .inl (c_lu, 20000, .inl w_lu)), (mfg, .inl (c_fg, 12, .inl w_fg)), (mnu, .inl (c_nu, 240, .inr (.inl w_nu))), (mma, .inl (c_ma, 4, .inl w_ma))]) [0, 1, 2, 3, 4, 5] (by decide) rfl
      have hK9 := hK.sub (tys' := [(c_wo, .int), (c_lu, .int), (c_fg, .int), (c_nu, .long), (c_ma, .int)]) [0, 1, 2, 3, 4] rfl
      exact W.iret (v := r_420) hx hb hr (fun t ht hW => ⟨⟨r_420, (), rfl, trivial, w_fg, ha_mfg, by rw [ht]; exact hP9, va_K.moved hW.alike hK9, hD9⟩, hS.F ht⟩) hS.2.2 dX10_likely_54
  ·
    refine lv_if_eq (tgt := 41) hx hb dX10_likely_7 (by decide) (fun c_407 => ?_) (fun c_407 => ?_)
    ·
      have n_c_407 : (r_406.toInt : Int) = 0 := c_eq rfl (by decide) c_407
      have b_r_406 : (0 : Int) ≤ r_406.toInt ∧ r_406.toInt ≤ 0 := r_eq1 b_r_406 (by decide : (0 : Int) ≤ (0 : Int32).toInt ∧ (0 : Int32).toInt ≤ 0) n_c_407 (by decide)
      refine lv_iconst (v := 0) hx hb dX10_likely_41 (by decide) ?_
      exact hj_42_419 (0 : Int32) _ _ _ ⟨(show (0 : Int) ≤ (0 : Int32).toInt ∧ (0 : Int32).toInt ≤ 1 from (rg_w (by decide : (0 : Int) ≤ (0 : Int32).toInt ∧ (0 : Int32).toInt ≤ 0) (by decide) (by decide))), (show (0 : Int32).toInt = 0 ∨ (0 ≤ a3.toInt ∧ a3.toInt ≤ 11) from (by have zl : (0 : Int32).toInt = 0 := (by decide); first | omega | exact Or.inl (by decide) | exact Or.inr ⟨by omega, by omega⟩)), hP, hD, hS, lv_sub hl [0, 1, 2, 3, 4] rfl⟩
    ·
      have n_c_407 : (r_406.toInt : Int) ≠ 0 := c_ne rfl (by decide) c_407
      have b_r_406 : (1 : Int) ≤ r_406.toInt ∧ r_406.toInt ≤ 1 := r_ne1 b_r_406 (by decide : (0 : Int) ≤ (0 : Int32).toInt ∧ (0 : Int32).toInt ≤ 0) n_c_407 (by decide)
      obtain ⟨b_a2, g_800⟩ := nz_r_406 c_407
      refine lv_aload_n hx hb dX10_likely_10 rfl (lv_at hl 0 rfl) ?_
      refine lv_iload_n hx hb dX10_likely_11 rfl (lv_at hl 3 rfl) ?_
      refine vp_callSi (W.runV (As := [.int a3]) (rest := [.int a1, .ref o0]) ⟨hx, hb, hml, hown, hts⟩ (kX10_isPlace l dC dI o0 x_th mwo mim mhi mlu mtp x_td mfv x_sz x_at x_fr x_to x_va x_fk x_fp mfr mwt x_wt x_op x_jo mfg mpl x_dr mtm mfa mqu mmo mwy mwn mma mwi mnu mmv c_wo w_wo ln bs tk lw li a3 b_ln b_bs b_tk b_lw (hw0) (hw1) (hw2) (hw3) (hw4) (hwz)) (cwV 1 hts gX10_likely__X10_isPlace_V308 rfl rfl rfl hd_yX10_isPlace ⟨lel 2 3 rfl, lel 46 71 rfl⟩) ⟨pw_fb, rcv_X10 hK hP (q0 := 0) rfl, (pw_use hP hK hN [0, 1] rfl [0] rfl)⟩ rfl rfl hl.1 rfl (lv_room (Nat.le_of_ble_eq_true rfl)) dX10_likely_12 ⟨lel 0 0 rfl, lel 0 0 rfl⟩) (fun r_801 h_r_801 => ?_)
      obtain ⟨b_r_801, nz_r_801⟩ := h_r_801
      have b_r_801 : (0 : Int) ≤ r_801.toInt ∧ r_801.toInt ≤ 1 := b_r_801
      refine lv_if_eq (tgt := 41) hx hb dX10_likely_15 (by decide) (fun c_802 => ?_) (fun c_802 => ?_)
      ·
        have n_c_802 : (r_801.toInt : Int) = 0 := c_eq rfl (by decide) c_802
        have b_r_801 : (0 : Int) ≤ r_801.toInt ∧ r_801.toInt ≤ 0 := r_eq1 b_r_801 (by decide : (0 : Int) ≤ (0 : Int32).toInt ∧ (0 : Int32).toInt ≤ 0) n_c_802 (by decide)
        refine lv_iconst (v := 0) hx hb dX10_likely_41 (by decide) ?_
        exact hj_42_419 (0 : Int32) _ _ _ ⟨(show (0 : Int) ≤ (0 : Int32).toInt ∧ (0 : Int32).toInt ≤ 1 from (rg_w (by decide : (0 : Int) ≤ (0 : Int32).toInt ∧ (0 : Int32).toInt ≤ 0) (by decide) (by decide))), (show (0 : Int32).toInt = 0 ∨ (0 ≤ a3.toInt ∧ a3.toInt ≤ 11) from (by have zl : (0 : Int32).toInt = 0 := (by decide); first | omega | exact Or.inl (by decide) | exact Or.inr ⟨by omega, by omega⟩)), hP, hD, hS, lv_sub hl [0, 1, 2, 3, 4] rfl⟩
      ·
        have n_c_802 : (r_801.toInt : Int) ≠ 0 := c_ne rfl (by decide) c_802
        have b_r_801 : (1 : Int) ≤ r_801.toInt ∧ r_801.toInt ≤ 1 := r_ne1 b_r_801 (by decide : (0 : Int) ≤ (0 : Int32).toInt ∧ (0 : Int32).toInt ≤ 0) n_c_802 (by decide)
        obtain ⟨b_a3, g_803⟩ := nz_r_801 c_802
        refine lv_iload hx hb dX10_likely_18 (lv_at hl 4 rfl) ?_
        obtain ⟨z_804, e_z_804⟩ : ∃ y : Int64, y = a4.toInt64 := ⟨_, rfl⟩
        refine lv_i2l (v := z_804) hx hb dX10_likely_20 e_z_804.symm ?_
        obtain ⟨q_z_804, b_z_804⟩ := ti_i2l e_z_804 (ti_rng a4)
        refine lv_lconst (v := 0) hx hb dX10_likely_21 (by decide) ?_
        refine lv_aload_n hx hb dX10_likely_22 rfl (lv_at hl 0 rfl) ?_
        refine va_get (D := (dC, dI)) (ci := 8) (v := .ref mwo) (C := RX10) (T := TX10) (N := 33) hx hb hts iX10_likely_X10 hown hK hP 0 rfl rfl 1 (by decide) (hts (.fieldLink RX10 9 "LuckyTicketModel" "world" "[I") (List.mem_of_getElem? (i := 8) rfl)) (fun _ h9 => h9) rfl dX10_likely_23 ?_
        refine lv_iconst (v := 1) hx hb dX10_likely_26 (by decide) ?_
        refine va_iald hx hb hK hP 1 0 rfl rfl (vp_in_b (by decide : (1 : Int) ≤ (1 : Int32).toInt ∧ (1 : Int32).toInt ≤ 1) (by decide) (by decide)) dX10_likely_27 ?_
        refine lv_topi (fun z_805 e_z_805 => ?_)
        obtain rfl : bs = z_805 := (e_z_805.trans hw1).symm
        refine lv_iconst (v := 1) hx hb dX10_likely_28 (by decide) ?_
        refine lv_isub hx hb dX10_likely_29 ?_
        refine lv_topi (fun z_806 e_z_806 => ?_)
        obtain ⟨q_z_806, b_z_806⟩ := ti_sub (lo := -1) (hi := 15) e_z_806 rfl (by decide : (1 : Int32).toInt = 1) b_bs (by decide : (1 : Int) ≤ (1 : Int32).toInt ∧ (1 : Int32).toInt ≤ 1) (by decide)
        obtain ⟨z_807, e_z_807⟩ : ∃ y : Int64, y = z_806.toInt64 := ⟨_, rfl⟩
        refine lv_i2l (v := z_807) hx hb dX10_likely_30 e_z_807.symm ?_
        obtain ⟨q_z_807, b_z_807⟩ := ti_i2l e_z_807 b_z_806
        refine vp_callSi (W.runS (As := [.long z_804, .long 0, .long z_807]) (rest := [.int a1, .ref o0]) ⟨hx, hb, hml, hown, hts⟩ (kX10_in l dC dI z_804 0 z_807 ) (va_cwS 3 hts gX10_likely__X10_in_S82 rfl rfl rfl hd_yX10_in.2 ⟨lel 1 3 rfl, lel 25 71 rfl⟩) ⟨pn_fb, pn_use⟩ rfl rfl hl.1 rfl (lv_room (Nat.le_of_ble_eq_true rfl)) dX10_likely_31 ⟨lel 0 0 rfl, lel 0 0 rfl⟩) (fun r_808 h_r_808 => ?_)
        obtain ⟨b_r_808, nz_r_808⟩ := h_r_808
        have b_r_808 : (0 : Int) ≤ r_808.toInt ∧ r_808.toInt ≤ 1 := b_r_808
        refine lv_if_eq (tgt := 41) hx hb dX10_likely_34 (by decide) (fun c_809 => ?_) (fun c_809 => ?_)
        ·
          have n_c_809 : (r_808.toInt : Int) = 0 := c_eq rfl (by decide) c_809
          have b_r_808 : (0 : Int) ≤ r_808.toInt ∧ r_808.toInt ≤ 0 := r_eq1 b_r_808 (by decide : (0 : Int) ≤ (0 : Int32).toInt ∧ (0 : Int32).toInt ≤ 0) n_c_809 (by decide)
          refine lv_iconst (v := 0) hx hb dX10_likely_41 (by decide) ?_
          exact hj_42_419 (0 : Int32) _ _ _ ⟨(show (0 : Int) ≤ (0 : Int32).toInt ∧ (0 : Int32).toInt ≤ 1 from (rg_w (by decide : (0 : Int) ≤ (0 : Int32).toInt ∧ (0 : Int32).toInt ≤ 0) (by decide) (by decide))), (show (0 : Int32).toInt = 0 ∨ (0 ≤ a3.toInt ∧ a3.toInt ≤ 11) from (by have zl : (0 : Int32).toInt = 0 := (by decide); first | omega | exact Or.inl (by decide) | exact Or.inr ⟨by omega, by omega⟩)), hP, hD, hS, lv_sub hl [0, 1, 2, 3, 4] rfl⟩
        ·
          have n_c_809 : (r_808.toInt : Int) ≠ 0 := c_ne rfl (by decide) c_809
          have b_r_808 : (1 : Int) ≤ r_808.toInt ∧ r_808.toInt ≤ 1 := r_ne1 b_r_808 (by decide : (0 : Int) ≤ (0 : Int32).toInt ∧ (0 : Int32).toInt ≤ 0) n_c_809 (by decide)
          have g_810 := nz_r_808 c_809
          have lt0_g_810 := (by decide : (0 : Int64).toInt = 0)
          have b_z_804 : (0 : Int) ≤ z_804.toInt ∧ z_804.toInt ≤ 15 := by
            have q0 := b_z_804
            have q1 := (by decide : (0 : Int) ≤ (0 : Int64).toInt ∧ (0 : Int64).toInt ≤ 0)
            have q2 := b_z_807
            omega
          have b_a4 : (0 : Int) ≤ a4.toInt ∧ a4.toInt ≤ 15 := by
            have q0 := b_z_804; have q1 := q_z_804; have q2 := (ti_rng a4); omega
          refine lv_iconst (v := 1) hx hb dX10_likely_37 (by decide) ?_
          refine lv_goto (tgt := 42) hx hb dX10_likely_38 (by decide) ?_
          exact hj_42_419 (1 : Int32) _ _ _ ⟨(show (0 : Int) ≤ (1 : Int32).toInt ∧ (1 : Int32).toInt ≤ 1 from (rg_w (by decide : (1 : Int) ≤ (1 : Int32).toInt ∧ (1 : Int32).toInt ≤ 1) (by decide) (by decide))), (show (1 : Int32).toInt = 0 ∨ (0 ≤ a3.toInt ∧ a3.toInt ≤ 11) from (by have zl : (1 : Int32).toInt = 1 := (by decide); first | omega | exact Or.inl (by decide) | exact Or.inr ⟨by omega, by omega⟩)), hP, hD, hS, lv_sub hl [0, 1, 2, 3, 4] rfl⟩
theorem dX10_draw_0 : decode cX10_draw 0 = .ok (.aload_n 0, 1) := by decide +kernel
theorem dX10_draw_1 : decode cX10_draw 1 = .ok (.ldc2_w 390, 3) := by decide +kernel
theorem dX10_draw_4 : decode cX10_draw 4 = .ok (.aload_n 0, 1) := by decide +kernel
theorem dX10_draw_5 : decode cX10_draw 5 = .ok (.getfield 392, 3) := by decide +kernel
theorem dX10_draw_8 : decode cX10_draw 8 = .ok (.lmul, 1) := by decide +kernel
theorem dX10_draw_9 : decode cX10_draw 9 = .ok (.ldc2_w 396, 3) := by decide +kernel
theorem dX10_draw_12 : decode cX10_draw 12 = .ok (.ladd, 1) := by decide +kernel
theorem dX10_draw_13 : decode cX10_draw 13 = .ok (.ldc2_w 398, 3) := by decide +kernel
theorem dX10_draw_16 : decode cX10_draw 16 = .ok (.lrem, 1) := by decide +kernel
theorem dX10_draw_17 : decode cX10_draw 17 = .ok (.putfield 392, 3) := by decide +kernel
theorem dX10_draw_20 : decode cX10_draw 20 = .ok (.aload_n 0, 1) := by decide +kernel
theorem dX10_draw_21 : decode cX10_draw 21 = .ok (.getfield 392, 3) := by decide +kernel
theorem dX10_draw_24 : decode cX10_draw 24 = .ok (.ldc2_w 400, 3) := by decide +kernel
theorem dX10_draw_27 : decode cX10_draw 27 = .ok (.ldiv, 1) := by decide +kernel
theorem dX10_draw_28 : decode cX10_draw 28 = .ok (.iload_n 1, 1) := by decide +kernel
theorem dX10_draw_29 : decode cX10_draw 29 = .ok (.i2l, 1) := by decide +kernel
theorem dX10_draw_30 : decode cX10_draw 30 = .ok (.lrem, 1) := by decide +kernel
theorem dX10_draw_31 : decode cX10_draw 31 = .ok (.l2i, 1) := by decide +kernel
theorem dX10_draw_32 : decode cX10_draw 32 = .ok (.ireturn, 1) := by decide +kernel
theorem hd_yX10_draw : yX10_draw.cls = RX10 ∧ yX10_draw.cls ≠ "java/lang/invoke/MethodHandle" ∧ yX10_draw.cls ≠ "java/lang/invoke/VarHandle" ∧ (parseMethodDescriptor yX10_draw.desc).map (fun d => d.parameters.length) = some 1 := by decide +kernel
def uX10_draw : List Cond := List.cons (.code yX10_draw cX10_draw 2 (some .int)) (HAppend.hAppend ([.constantLong RX10 390 (1103515245), .fieldLink RX10 392 "LuckyTicketModel" "drawn" "J", .constantLong RX10 396 (12345), .constantLong RX10 398 (2147483648), .constantLong RX10 400 (65536)] : List Cond) wsX100)
theorem iX10_draw_X10 : ∀ w ∈ wsX100, w ∈ uX10_draw := fun _ h => (List.mem_cons_of_mem _ (List.mem_append_right _ h))
theorem guX10_draw : GU uX10_draw := gu_cons (gu_app (by decide +kernel) gws_X10)
set_option maxHeartbeats 4000000 in
set_option maxRecDepth 100000 in
theorem kX10_draw (l : Launch) (dC : Nat → ClassId) (dI : Nat → Nat → Nat) (o0 : Nat) (x_th : Int32) (mwo : Nat) (mim : Nat) (mhi : Nat) (mlu : Nat) (mtp : Nat) (x_td : Int32) (mfv : Nat) (x_sz : Int32) (x_at : Int32) (x_fr : Int32) (x_to : Int32) (x_va : Int32) (x_fk : Int32) (x_fp : Int32) (mfr : Nat) (mwt : Nat) (x_wt : Int32) (x_op : Int32) (x_jo : Int32) (mfg : Nat) (mpl : Nat) (x_dr : Int64) (mtm : Nat) (mfa : Nat) (mqu : Nat) (mmo : Nat) (mwy : Nat) (mwn : Nat) (mma : Nat) (mwi : Nat) (mnu : Nat) (mmv : Nat) (a1 : Int32) (sz : Nat) (b_x_dr : (0 : Int) ≤ x_dr.toInt ∧ x_dr.toInt ≤ 2147483647) (b_a1 : (1 : Int) ≤ a1.toInt ∧ a1.toInt ≤ 20000) : Met l yX10_draw uX10_draw ({ frames := 0, cells := 0, slots := 0, locals := 0 }) (va_Pc [.ref o0, .int a1] (hw (dC, dI) vwCl [(o0, .inr (8, [.int x_th, .ref mwo, .ref mim, .ref mhi, .ref mlu, .ref mtp, .int x_td, .ref mfv, .int x_sz, .int x_at, .int x_fr, .int x_to, .int x_va, .int x_fk, .int x_fp, .ref mfr, .ref mwt, .int x_wt, .int x_op, .int x_jo, .ref mfg, .ref mpl, .long x_dr, .ref mtm, .ref mfa, .ref mqu, .ref mmo, .ref mwy, .ref mwn, .ref mma, .ref mwi, .ref mnu, .ref mmv]))] [] sz)) (va_Qi (fun (r : Int32) (_ : Unit) => ((0 : Int) ≤ r.toInt ∧ r.toInt ≤ 19999) ∧ (r.toInt < a1.toInt)) (fun (_ : Unit) t => ∃ (o0_ : Int64), ((0 : Int) ≤ o0_.toInt ∧ o0_.toInt ≤ 2147483647) ∧ va_P (dC, dI) vwCl [(o0, .inr (8, [.int x_th, .ref mwo, .ref mim, .ref mhi, .ref mlu, .ref mtp, .int x_td, .ref mfv, .int x_sz, .int x_at, .int x_fr, .int x_to, .int x_va, .int x_fk, .int x_fp, .ref mfr, .ref mwt, .int x_wt, .int x_op, .int x_jo, .ref mfg, .ref mpl, .long o0_, .ref mtm, .ref mfa, .ref mqu, .ref mmo, .ref mwy, .ref mwn, .ref mma, .ref mwi, .ref mnu, .ref mmv]))] t.heap ∧ va_K (dC, dI) vwCl [] t ∧ va_D (va_A [(o0, .inr (8, [.int x_th, .ref mwo, .ref mim, .ref mhi, .ref mlu, .ref mtp, .int x_td, .ref mfv, .int x_sz, .int x_at, .int x_fr, .int x_to, .int x_va, .int x_fk, .int x_fp, .ref mfr, .ref mwt, .int x_wt, .int x_op, .int x_jo, .ref mfg, .ref mpl, .long x_dr, .ref mtm, .ref mfa, .ref mqu, .ref mmo, .ref mwy, .ref mwn, .ref mma, .ref mwi, .ref mnu, .ref mmv]))] sz) [(o0, .inr (8, [.int x_th, .ref mwo, .ref mim, .ref mhi, .ref mlu, .ref mtp, .int x_td, .ref mfv, .int x_sz, .int x_at, .int x_fr, .int x_to, .int x_va, .int x_fk, .int x_fp, .ref mfr, .ref mwt, .int x_wt, .int x_op, .int x_jo, .ref mfg, .ref mpl, .long o0_, .ref mtm, .ref mfa, .ref mqu, .ref mmo, .ref mwy, .ref mwn, .ref mma, .ref mwi, .ref mnu, .ref mmv]))]) (va_A [(o0, .inr (8, [.int x_th, .ref mwo, .ref mim, .ref mhi, .ref mlu, .ref mtp, .int x_td, .ref mfv, .int x_sz, .int x_at, .int x_fr, .int x_to, .int x_va, .int x_fk, .int x_fp, .ref mfr, .ref mwt, .int x_wt, .int x_op, .int x_jo, .ref mfg, .ref mpl, .long x_dr, .ref mtm, .ref mfa, .ref mqu, .ref mmo, .ref mwy, .ref mwn, .ref mma, .ref mwi, .ref mnu, .ref mmv]))] sz)) 0 0 (va_A [(o0, .inr (8, [.int x_th, .ref mwo, .ref mim, .ref mhi, .ref mlu, .ref mtp, .int x_td, .ref mfv, .int x_sz, .int x_at, .int x_fr, .int x_to, .int x_va, .int x_fk, .int x_fp, .ref mfr, .ref mwt, .int x_wt, .int x_op, .int x_jo, .ref mfg, .ref mpl, .long x_dr, .ref mtm, .ref mfa, .ref mqu, .ref mmo, .ref mwy, .ref mwn, .ref mma, .ref mwi, .ref mnu, .ref mmv]))] sz) := by
  refine Met.ofW (cc := cX10_draw) (maxL := 2) (ret := (some .int)) pn_X10 rfl ?_
  intro p e s m args below meth c s₁ B hml hv
  obtain ⟨rfl, hsz, hP, hK, hD0, hN⟩ := hv
  have hx := B.exec
  have hb := B.bytes
  have hr := B.returns
  have hts := atoms_spec (ws := uX10_draw) B.pre
  have hown : s.vm.findClass RX10 = some m.cls := hown_of B.named rfl
  have hlocks := B.notSynchronized
  subst hsz
  have hD := hD0.self (sz := s.heap.size)
  generalize hAe : va_A [(o0, .inr (8, [.int x_th, .ref mwo, .ref mim, .ref mhi, .ref mlu, .ref mtp, .int x_td, .ref mfv, .int x_sz, .int x_at, .int x_fr, .int x_to, .int x_va, .int x_fk, .int x_fp, .ref mfr, .ref mwt, .int x_wt, .int x_op, .int x_jo, .ref mfg, .ref mpl, .long x_dr, .ref mtm, .ref mfa, .ref mqu, .ref mmo, .ref mwy, .ref mwn, .ref mma, .ref mwi, .ref mnu, .ref mmv]))] s.heap.size = A at hD ⊢
  have hA : ∀ q : Nat, s.heap.size ≤ q → A q := fun q h => by rw [← hAe]; exact Or.inr h
  have hS : va_S A s.heap s.heap [] := va_S.rf
  have hP : va_P (dC, dI) vwCl [(o0, .inr (8, [.int x_th, .ref mwo, .ref mim, .ref mhi, .ref mlu, .ref mtp, .int x_td, .ref mfv, .int x_sz, .int x_at, .int x_fr, .int x_to, .int x_va, .int x_fk, .int x_fp, .ref mfr, .ref mwt, .int x_wt, .int x_op, .int x_jo, .ref mfg, .ref mpl, .long x_dr, .ref mtm, .ref mfa, .ref mqu, .ref mmo, .ref mwy, .ref mwn, .ref mma, .ref mwi, .ref mnu, .ref mmv]))] s.heap := hP
  have hl := lv_entry ([.ref o0, .int a1]) (n := 2) (Nat.le_of_ble_eq_true rfl)
  rw [lg_entry_eq]
  generalize (lg_sl ([.ref o0, .int a1]) ++ List.replicate (2 - (lg_sl ([.ref o0, .int a1])).length) Slot.unset).toArray = ls at hl ⊢
  have hl : lv_has ls 2 [(0, .ref o0), (1, .int a1)] := hl
  refine lv_aload_n hx hb dX10_draw_0 rfl (lv_at hl 0 rfl) ?_
  refine lv_ldc2 (v := 1103515245) hx hb hown (hts (.constantLong RX10 390 (1103515245)) (List.mem_of_getElem? (i := 1) rfl)) dX10_draw_1 ?_
  refine lv_aload_n hx hb dX10_draw_4 rfl (lv_at hl 0 rfl) ?_
  refine va_get (D := (dC, dI)) (ci := 8) (v := .long x_dr) (C := RX10) (T := TX10) (N := 33) hx hb hts iX10_draw_X10 hown hK hP 0 rfl rfl 22 (by decide) (hts (.fieldLink RX10 392 "LuckyTicketModel" "drawn" "J") (List.mem_of_getElem? (i := 2) rfl)) (fun _ h9 => h9) rfl dX10_draw_5 ?_
  refine lv_lmul hx hb dX10_draw_8 ?_
  refine lv_topl (fun z_8 e_z_8 => ?_)
  obtain ⟨q_z_8, b_z_8⟩ := tl_mul (lo := 0) (hi := 2369780942852698515) e_z_8 (by decide : (1103515245 : Int64).toInt = 1103515245) rfl (by decide : (1103515245 : Int) ≤ (1103515245 : Int64).toInt ∧ (1103515245 : Int64).toInt ≤ 1103515245) b_x_dr (by decide)
  refine lv_ldc2 (v := 12345) hx hb hown (hts (.constantLong RX10 396 (12345)) (List.mem_of_getElem? (i := 3) rfl)) dX10_draw_9 ?_
  refine lv_ladd hx hb dX10_draw_12 ?_
  refine lv_topl (fun z_9 e_z_9 => ?_)
  obtain ⟨q_z_9, b_z_9⟩ := tl_add (lo := 12345) (hi := 2369780942852710860) e_z_9 rfl (by decide : (12345 : Int64).toInt = 12345) b_z_8 (by decide : (12345 : Int) ≤ (12345 : Int64).toInt ∧ (12345 : Int64).toInt ≤ 12345) (by decide)
  refine lv_ldc2 (v := 2147483648) hx hb hown (hts (.constantLong RX10 398 (2147483648)) (List.mem_of_getElem? (i := 4) rfl)) dX10_draw_13 ?_
  refine lv_lrem hx hb dX10_draw_16 (by decide) ?_
  refine lv_topl (fun z_10 e_z_10 => ?_)
  obtain ⟨q_z_10, b_z_10⟩ := tl_rem (hi := 2147483647) e_z_10 rfl (by decide : (2147483648 : Int64).toInt = 2147483648) b_z_9 (by decide : (2147483648 : Int) ≤ (2147483648 : Int64).toInt ∧ (2147483648 : Int64).toInt ≤ 2147483648) (by decide)
  refine va_put (D := (dC, dI)) (ci := 8) (v := .long z_10) (ty := .long) (C := RX10) (T := TX10) (N := 33) hx hb hts iX10_draw_X10 tyX10 tyX10_ok nmX10 hown hK hP hD hS 0 rfl rfl 22 (by decide) (hts (.fieldLink RX10 392 "LuckyTicketModel" "drawn" "J") (List.mem_of_getElem? (i := 2) rfl)) (fun _ h9 => h9) rfl (by decide +kernel) rfl rfl (Nat.le_of_ble_eq_true rfl) dX10_draw_17 (fun H locs hP hD hS => ?_)
  have hP : va_P (dC, dI) vwCl [(o0, .inr (8, [.int x_th, .ref mwo, .ref mim, .ref mhi, .ref mlu, .ref mtp, .int x_td, .ref mfv, .int x_sz, .int x_at, .int x_fr, .int x_to, .int x_va, .int x_fk, .int x_fp, .ref mfr, .ref mwt, .int x_wt, .int x_op, .int x_jo, .ref mfg, .ref mpl, .long z_10, .ref mtm, .ref mfa, .ref mqu, .ref mmo, .ref mwy, .ref mwn, .ref mma, .ref mwi, .ref mnu, .ref mmv]))] H := hP
  have hD : va_D A [(o0, .inr (8, [.int x_th, .ref mwo, .ref mim, .ref mhi, .ref mlu, .ref mtp, .int x_td, .ref mfv, .int x_sz, .int x_at, .int x_fr, .int x_to, .int x_va, .int x_fk, .int x_fp, .ref mfr, .ref mwt, .int x_wt, .int x_op, .int x_jo, .ref mfg, .ref mpl, .long z_10, .ref mtm, .ref mfa, .ref mqu, .ref mmo, .ref mwy, .ref mwn, .ref mma, .ref mwi, .ref mnu, .ref mmv]))] := hD
  refine lv_aload_n hx hb dX10_draw_20 rfl (lv_at hl 0 rfl) ?_
  refine va_get (D := (dC, dI)) (ci := 8) (v := .long z_10) (C := RX10) (T := TX10) (N := 33) hx hb hts iX10_draw_X10 hown hK hP 0 rfl rfl 22 (by decide) (hts (.fieldLink RX10 392 "LuckyTicketModel" "drawn" "J") (List.mem_of_getElem? (i := 2) rfl)) (fun _ h9 => h9) rfl dX10_draw_21 ?_
  refine lv_ldc2 (v := 65536) hx hb hown (hts (.constantLong RX10 400 (65536)) (List.mem_of_getElem? (i := 5) rfl)) dX10_draw_24 ?_
  refine lv_ldiv hx hb dX10_draw_27 (by decide) ?_
  refine lv_topl (fun z_11 e_z_11 => ?_)
  obtain ⟨q_z_11, b_z_11⟩ := tl_div (hi := 32767) e_z_11 rfl (by decide : (65536 : Int64).toInt = 65536) b_z_10 (by decide : (65536 : Int) ≤ (65536 : Int64).toInt ∧ (65536 : Int64).toInt ≤ 65536) (by decide)
  refine lv_iload_n hx hb dX10_draw_28 rfl (lv_at hl 1 rfl) ?_
  obtain ⟨z_12, e_z_12⟩ : ∃ y : Int64, y = a1.toInt64 := ⟨_, rfl⟩
  refine lv_i2l (v := z_12) hx hb dX10_draw_29 e_z_12.symm ?_
  obtain ⟨q_z_12, b_z_12⟩ := ti_i2l e_z_12 b_a1
  refine lv_lrem hx hb dX10_draw_30 (tl_ne b_z_12 (by decide)) ?_
  refine lv_topl (fun z_13 e_z_13 => ?_)
  obtain ⟨q_z_13, b_z_13⟩ := tl_rem (hi := 19999) e_z_13 rfl rfl b_z_11 b_z_12 (by decide)
  obtain ⟨z_14, e_z_14⟩ : ∃ y : Int32, y = z_13.toInt32 := ⟨_, rfl⟩
  refine lv_l2i (v := z_14) hx hb dX10_draw_31 e_z_14.symm ?_
  obtain ⟨q_z_14, b_z_14⟩ := ti_l2i e_z_14 b_z_13 (by decide)
  have hP9 := hP.sub (ws' := [(o0, .inr (8, [.int x_th, .ref mwo, .ref mim, .ref mhi, .ref mlu, .ref mtp, .int x_td, .ref mfv, .int x_sz, .int x_at, .int x_fr, .int x_to, .int x_va, .int x_fk, .int x_fp, .ref mfr, .ref mwt, .int x_wt, .int x_op, .int x_jo, .ref mfg, .ref mpl, .long z_10, .ref mtm, .ref mfa, .ref mqu, .ref mmo, .ref mwy, .ref mwn, .ref mma, .ref mwi, .ref mnu, .ref mmv]))]) [0] rfl
  have hD9 := hD.sub (ws' := [(o0, .inr (8, [.int x_th, .ref mwo, .ref mim, .ref mhi, .ref mlu, .ref mtp, .int x_td, .ref mfv, .int x_sz, .int x_at, .int x_fr, .int x_to, .int x_va, .int x_fk, .int x_fp, .ref mfr, .ref mwt, .int x_wt, .int x_op, .int x_jo, .ref mfg, .ref mpl, .long z_10, .ref mtm, .ref mfa, .ref mqu, .ref mmo, .ref mwy, .ref mwn, .ref mma, .ref mwi, .ref mnu, .ref mmv]))]) [0] (by decide) rfl
  have hK9 := hK.sub (tys' := []) [] rfl
  exact W.iret (v := z_14) hx hb hr (fun t ht hW => ⟨⟨z_14, (), rfl, ⟨b_z_14, (by omega)⟩, z_10, b_z_10, by rw [ht]; exact hP9, va_K.moved hW.alike hK9, hD9⟩, hS.F ht⟩) hS.2.2 dX10_draw_32
theorem dX10_draw__0 : decode cX10_draw_ 0 = .ok (.aload_n 0, 1) := by decide +kernel
theorem dX10_draw__1 : decode cX10_draw_ 1 = .ok (.iload_n 1, 1) := by decide +kernel
theorem dX10_draw__2 : decode cX10_draw_ 2 = .ok (.invokevirtual 89, 3) := by decide +kernel
theorem dX10_draw__5 : decode cX10_draw_ 5 = .ok (.ifCond .eq 10, 3) := by decide +kernel
theorem dX10_draw__8 : decode cX10_draw_ 8 = .ok (.iload_n 2, 1) := by decide +kernel
theorem dX10_draw__9 : decode cX10_draw_ 9 = .ok (.invokestatic 404, 3) := by decide +kernel
theorem dX10_draw__12 : decode cX10_draw_ 12 = .ok (.ifCond .ne 6, 3) := by decide +kernel
theorem dX10_draw__15 : decode cX10_draw_ 15 = .ok (.bipush (-2), 2) := by decide +kernel
theorem dX10_draw__17 : decode cX10_draw_ 17 = .ok (.ireturn, 1) := by decide +kernel
theorem dX10_draw__18 : decode cX10_draw_ 18 = .ok (.aload_n 0, 1) := by decide +kernel
theorem dX10_draw__19 : decode cX10_draw_ 19 = .ok (.iload_n 1, 1) := by decide +kernel
theorem dX10_draw__20 : decode cX10_draw_ 20 = .ok (.invokevirtual 322, 3) := by decide +kernel
theorem dX10_draw__23 : decode cX10_draw_ 23 = .ok (.istore_n 3, 1) := by decide +kernel
theorem dX10_draw__24 : decode cX10_draw_ 24 = .ok (.iload_n 3, 1) := by decide +kernel
theorem dX10_draw__25 : decode cX10_draw_ 25 = .ok (.ifCond .ne 5, 3) := by decide +kernel
theorem dX10_draw__28 : decode cX10_draw_ 28 = .ok (.iconst (-1), 1) := by decide +kernel
theorem dX10_draw__29 : decode cX10_draw_ 29 = .ok (.ireturn, 1) := by decide +kernel
theorem dX10_draw__30 : decode cX10_draw_ 30 = .ok (.aload_n 0, 1) := by decide +kernel
theorem dX10_draw__31 : decode cX10_draw_ 31 = .ok (.iload_n 2, 1) := by decide +kernel
theorem dX10_draw__32 : decode cX10_draw_ 32 = .ok (.i2l, 1) := by decide +kernel
theorem dX10_draw__33 : decode cX10_draw_ 33 = .ok (.putfield 392, 3) := by decide +kernel
theorem dX10_draw__36 : decode cX10_draw_ 36 = .ok (.aload_n 0, 1) := by decide +kernel
theorem dX10_draw__37 : decode cX10_draw_ 37 = .ok (.iload_n 1, 1) := by decide +kernel
theorem dX10_draw__38 : decode cX10_draw_ 38 = .ok (.aload_n 0, 1) := by decide +kernel
theorem dX10_draw__39 : decode cX10_draw_ 39 = .ok (.iload_n 3, 1) := by decide +kernel
theorem dX10_draw__40 : decode cX10_draw_ 40 = .ok (.invokevirtual 407, 3) := by decide +kernel
theorem dX10_draw__43 : decode cX10_draw_ 43 = .ok (.invokevirtual 331, 3) := by decide +kernel
theorem dX10_draw__46 : decode cX10_draw_ 46 = .ok (.ireturn, 1) := by decide +kernel
theorem hd_yX10_draw_ : yX10_draw_.cls = RX10 ∧ yX10_draw_.cls ≠ "java/lang/invoke/MethodHandle" ∧ yX10_draw_.cls ≠ "java/lang/invoke/VarHandle" ∧ (parseMethodDescriptor yX10_draw_.desc).map (fun d => d.parameters.length) = some 2 := by decide +kernel
def uX10_draw_ : List Cond := List.cons (.code yX10_draw_ cX10_draw_ 4 (some .int)) (HAppend.hAppend ([.methodLink RX10 89 yX10_isLaw, .instanceMethod yX10_isLaw, .selects RX10 yX10_isLaw yX10_isLaw, .initialized RX10, .methodLink RX10 404 yX10_isSeed, .static yX10_isSeed, .methodLink RX10 322 yX10_allOf, .instanceMethod yX10_allOf, .selects RX10 yX10_allOf yX10_allOf, .fieldLink RX10 392 "LuckyTicketModel" "drawn" "J", .methodLink RX10 407 yX10_draw, .instanceMethod yX10_draw, .selects RX10 yX10_draw yX10_draw, .methodLink RX10 331 yX10_nthOf, .instanceMethod yX10_nthOf, .selects RX10 yX10_nthOf yX10_nthOf] : List Cond) (HAppend.hAppend uX10_isLaw (HAppend.hAppend uX10_isSeed (HAppend.hAppend uX10_allOf (HAppend.hAppend uX10_draw (HAppend.hAppend uX10_nthOf wsX100))))))
theorem iX10_draw__X10 : ∀ w ∈ wsX100, w ∈ uX10_draw_ := fun _ h => (List.mem_cons_of_mem _ (List.mem_append_right _ (List.mem_append_right _ (List.mem_append_right _ (List.mem_append_right _ (List.mem_append_right _ (List.mem_append_right _ h)))))))
theorem guX10_draw_ : GU uX10_draw_ := gu_cons (gu_app (by decide +kernel) (gu_ap guX10_isLaw (gu_ap guX10_isSeed (gu_ap guX10_allOf (gu_ap guX10_draw (gu_ap guX10_nthOf gws_X10))))))
theorem gX10_draw___X10_isLaw_V89 : GoodIn uX10_draw_ (wsV RX10 89 RX10 yX10_isLaw uX10_isLaw) := gin_V (List.mem_of_getElem? (i := 1) rfl) (List.mem_of_getElem? (i := 2) rfl) (List.mem_of_getElem? (i := 3) rfl) (List.mem_of_getElem? (i := 4) rfl) (fun _ h => (List.mem_cons_of_mem _ (List.mem_append_right _ (List.mem_append_left _ h)))) guX10_isLaw
theorem gX10_draw___X10_isSeed_S404 : GoodIn uX10_draw_ (va_wsS RX10 404 yX10_isSeed uX10_isSeed) := gin_S (List.mem_of_getElem? (i := 5) rfl) (List.mem_of_getElem? (i := 6) rfl) (List.mem_of_getElem? (i := 4) rfl) (fun _ h => (List.mem_cons_of_mem _ (List.mem_append_right _ (List.mem_append_right _ (List.mem_append_left _ h))))) guX10_isSeed
theorem gX10_draw___X10_allOf_V322 : GoodIn uX10_draw_ (wsV RX10 322 RX10 yX10_allOf uX10_allOf) := gin_V (List.mem_of_getElem? (i := 7) rfl) (List.mem_of_getElem? (i := 8) rfl) (List.mem_of_getElem? (i := 9) rfl) (List.mem_of_getElem? (i := 4) rfl) (fun _ h => (List.mem_cons_of_mem _ (List.mem_append_right _ (List.mem_append_right _ (List.mem_append_right _ (List.mem_append_left _ h)))))) guX10_allOf
theorem gX10_draw___X10_draw_V407 : GoodIn uX10_draw_ (wsV RX10 407 RX10 yX10_draw uX10_draw) := gin_V (List.mem_of_getElem? (i := 11) rfl) (List.mem_of_getElem? (i := 12) rfl) (List.mem_of_getElem? (i := 13) rfl) (List.mem_of_getElem? (i := 4) rfl) (fun _ h => (List.mem_cons_of_mem _ (List.mem_append_right _ (List.mem_append_right _ (List.mem_append_right _ (List.mem_append_right _ (List.mem_append_left _ h))))))) guX10_draw
theorem gX10_draw___X10_nthOf_V331 : GoodIn uX10_draw_ (wsV RX10 331 RX10 yX10_nthOf uX10_nthOf) := gin_V (List.mem_of_getElem? (i := 14) rfl) (List.mem_of_getElem? (i := 15) rfl) (List.mem_of_getElem? (i := 16) rfl) (List.mem_of_getElem? (i := 4) rfl) (fun _ h => (List.mem_cons_of_mem _ (List.mem_append_right _ (List.mem_append_right _ (List.mem_append_right _ (List.mem_append_right _ (List.mem_append_right _ (List.mem_append_left _ h)))))))) guX10_nthOf
set_option maxHeartbeats 4000000 in
set_option maxRecDepth 100000 in
theorem kX10_draw_ (l : Launch) (dC : Nat → ClassId) (dI : Nat → Nat → Nat) (o0 : Nat) (x_th : Int32) (mwo : Nat) (mim : Nat) (mhi : Nat) (mlu : Nat) (mtp : Nat) (x_td : Int32) (mfv : Nat) (x_sz : Int32) (x_at : Int32) (x_fr : Int32) (x_to : Int32) (x_va : Int32) (x_fk : Int32) (x_fp : Int32) (mfr : Nat) (mwt : Nat) (x_wt : Int32) (x_op : Int32) (x_jo : Int32) (mfg : Nat) (mpl : Nat) (x_dr : Int64) (mtm : Nat) (mfa : Nat) (mqu : Nat) (mmo : Nat) (mwy : Nat) (mwn : Nat) (mma : Nat) (mwi : Nat) (mnu : Nat) (mmv : Nat) (c_wo : ClassId) (c_lu : ClassId) (w_wo : Nat → Int32) (w_lu : Nat → Int32) (ln : Int32) (bs : Int32) (tk : Int32) (lw : Int32) (li : Int32) (a1 : Int32) (a2 : Int32) (sz : Nat) (b_ln : (0 : Int) ≤ ln.toInt ∧ ln.toInt ≤ 12) (b_bs : (0 : Int) ≤ bs.toInt ∧ bs.toInt ≤ 16) (b_tk : (0 : Int) ≤ tk.toInt ∧ tk.toInt ≤ 20000) (b_lw : (0 : Int) ≤ lw.toInt ∧ lw.toInt ≤ 9) (hw0 : w_wo 0 = ln) (hw1 : w_wo 1 = bs) (hw2 : w_wo 2 = tk) (hw3 : w_wo 3 = lw) (hw4 : w_wo 4 = li) (hwz : (ln.toInt = 0 ∧ bs.toInt = 0 ∧ tk.toInt = 0 ∧ lw.toInt = 0) ∨ (1 ≤ ln.toInt ∧ 2 ≤ bs.toInt ∧ 1 ≤ tk.toInt)) : Met l yX10_draw_ uX10_draw_ ({ frames := 2, cells := 0, slots := 0, locals := 46 }) (va_Pc [.ref o0, .int a1, .int a2] (hw (dC, dI) vwCl [(o0, .inr (8, [.int x_th, .ref mwo, .ref mim, .ref mhi, .ref mlu, .ref mtp, .int x_td, .ref mfv, .int x_sz, .int x_at, .int x_fr, .int x_to, .int x_va, .int x_fk, .int x_fp, .ref mfr, .ref mwt, .int x_wt, .int x_op, .int x_jo, .ref mfg, .ref mpl, .long x_dr, .ref mtm, .ref mfa, .ref mqu, .ref mmo, .ref mwy, .ref mwn, .ref mma, .ref mwi, .ref mnu, .ref mmv])), (mwo, .inl (c_wo, 1875, .inl w_wo)), (mlu, .inl (c_lu, 20000, .inl w_lu))] [(c_wo, .int), (c_lu, .int)] sz)) (va_Qi (fun (r : Int32) (_ : Unit) => ((-2 : Int) ≤ r.toInt ∧ r.toInt ≤ 19999)) (fun (_ : Unit) t => ∃ (o0_ : Int64), va_P (dC, dI) vwCl [(o0, .inr (8, [.int x_th, .ref mwo, .ref mim, .ref mhi, .ref mlu, .ref mtp, .int x_td, .ref mfv, .int x_sz, .int x_at, .int x_fr, .int x_to, .int x_va, .int x_fk, .int x_fp, .ref mfr, .ref mwt, .int x_wt, .int x_op, .int x_jo, .ref mfg, .ref mpl, .long o0_, .ref mtm, .ref mfa, .ref mqu, .ref mmo, .ref mwy, .ref mwn, .ref mma, .ref mwi, .ref mnu, .ref mmv])), (mwo, .inl (c_wo, 1875, .inl w_wo)), (mlu, .inl (c_lu, 20000, .inl w_lu))] t.heap ∧ va_K (dC, dI) vwCl [(c_wo, .int), (c_lu, .int)] t ∧ va_D (va_A [(o0, .inr (8, [.int x_th, .ref mwo, .ref mim, .ref mhi, .ref mlu, .ref mtp, .int x_td, .ref mfv, .int x_sz, .int x_at, .int x_fr, .int x_to, .int x_va, .int x_fk, .int x_fp, .ref mfr, .ref mwt, .int x_wt, .int x_op, .int x_jo, .ref mfg, .ref mpl, .long x_dr, .ref mtm, .ref mfa, .ref mqu, .ref mmo, .ref mwy, .ref mwn, .ref mma, .ref mwi, .ref mnu, .ref mmv])), (mwo, .inl (c_wo, 1875, .inl w_wo)), (mlu, .inl (c_lu, 20000, .inl w_lu))] sz) [(o0, .inr (8, [.int x_th, .ref mwo, .ref mim, .ref mhi, .ref mlu, .ref mtp, .int x_td, .ref mfv, .int x_sz, .int x_at, .int x_fr, .int x_to, .int x_va, .int x_fk, .int x_fp, .ref mfr, .ref mwt, .int x_wt, .int x_op, .int x_jo, .ref mfg, .ref mpl, .long o0_, .ref mtm, .ref mfa, .ref mqu, .ref mmo, .ref mwy, .ref mwn, .ref mma, .ref mwi, .ref mnu, .ref mmv])), (mwo, .inl (c_wo, 1875, .inl w_wo)), (mlu, .inl (c_lu, 20000, .inl w_lu))]) (va_A [(o0, .inr (8, [.int x_th, .ref mwo, .ref mim, .ref mhi, .ref mlu, .ref mtp, .int x_td, .ref mfv, .int x_sz, .int x_at, .int x_fr, .int x_to, .int x_va, .int x_fk, .int x_fp, .ref mfr, .ref mwt, .int x_wt, .int x_op, .int x_jo, .ref mfg, .ref mpl, .long x_dr, .ref mtm, .ref mfa, .ref mqu, .ref mmo, .ref mwy, .ref mwn, .ref mma, .ref mwi, .ref mnu, .ref mmv])), (mwo, .inl (c_wo, 1875, .inl w_wo)), (mlu, .inl (c_lu, 20000, .inl w_lu))] sz)) 0 0 (va_A [(o0, .inr (8, [.int x_th, .ref mwo, .ref mim, .ref mhi, .ref mlu, .ref mtp, .int x_td, .ref mfv, .int x_sz, .int x_at, .int x_fr, .int x_to, .int x_va, .int x_fk, .int x_fp, .ref mfr, .ref mwt, .int x_wt, .int x_op, .int x_jo, .ref mfg, .ref mpl, .long x_dr, .ref mtm, .ref mfa, .ref mqu, .ref mmo, .ref mwy, .ref mwn, .ref mma, .ref mwi, .ref mnu, .ref mmv])), (mwo, .inl (c_wo, 1875, .inl w_wo)), (mlu, .inl (c_lu, 20000, .inl w_lu))] sz) := by
  refine Met.ofW (cc := cX10_draw_) (maxL := 4) (ret := (some .int)) pn_X10 rfl ?_
  intro p e s m args below meth c s₁ B hml hv
  obtain ⟨rfl, hsz, hP, hK, hD0, hN⟩ := hv
  have hx := B.exec
  have hb := B.bytes
  have hr := B.returns
  have hts := atoms_spec (ws := uX10_draw_) B.pre
  have hown : s.vm.findClass RX10 = some m.cls := hown_of B.named rfl
  have hlocks := B.notSynchronized
  subst hsz
  have hD := hD0.self (sz := s.heap.size)
  generalize hAe : va_A [(o0, .inr (8, [.int x_th, .ref mwo, .ref mim, .ref mhi, .ref mlu, .ref mtp, .int x_td, .ref mfv, .int x_sz, .int x_at, .int x_fr, .int x_to, .int x_va, .int x_fk, .int x_fp, .ref mfr, .ref mwt, .int x_wt, .int x_op, .int x_jo, .ref mfg, .ref mpl, .long x_dr, .ref mtm, .ref mfa, .ref mqu, .ref mmo, .ref mwy, .ref mwn, .ref mma, .ref mwi, .ref mnu, .ref mmv])), (mwo, .inl (c_wo, 1875, .inl w_wo)), (mlu, .inl (c_lu, 20000, .inl w_lu))] s.heap.size = A at hD ⊢
  have hA : ∀ q : Nat, s.heap.size ≤ q → A q := fun q h => by rw [← hAe]; exact Or.inr h
  have hS : va_S A s.heap s.heap [] := va_S.rf
  have hP : va_P (dC, dI) vwCl [(o0, .inr (8, [.int x_th, .ref mwo, .ref mim, .ref mhi, .ref mlu, .ref mtp, .int x_td, .ref mfv, .int x_sz, .int x_at, .int x_fr, .int x_to, .int x_va, .int x_fk, .int x_fp, .ref mfr, .ref mwt, .int x_wt, .int x_op, .int x_jo, .ref mfg, .ref mpl, .long x_dr, .ref mtm, .ref mfa, .ref mqu, .ref mmo, .ref mwy, .ref mwn, .ref mma, .ref mwi, .ref mnu, .ref mmv])), (mwo, .inl (c_wo, 1875, .inl w_wo)), (mlu, .inl (c_lu, 20000, .inl w_lu))] s.heap := hP
  have hl := lv_entry ([.ref o0, .int a1, .int a2]) (n := 4) (Nat.le_of_ble_eq_true rfl)
  rw [lg_entry_eq]
  generalize (lg_sl ([.ref o0, .int a1, .int a2]) ++ List.replicate (4 - (lg_sl ([.ref o0, .int a1, .int a2])).length) Slot.unset).toArray = ls at hl ⊢
  have hl : lv_has ls 4 [(0, .ref o0), (1, .int a1), (2, .int a2)] := hl
  refine lv_aload_n hx hb dX10_draw__0 rfl (lv_at hl 0 rfl) ?_
  refine lv_iload_n hx hb dX10_draw__1 rfl (lv_at hl 1 rfl) ?_
  refine vp_callSi (W.runV (As := [.int a1]) (rest := []) ⟨hx, hb, hml, hown, hts⟩ (kX10_isLaw l dC dI o0 x_th mwo mim mhi mlu mtp x_td mfv x_sz x_at x_fr x_to x_va x_fk x_fp mfr mwt x_wt x_op x_jo mfg mpl x_dr mtm mfa mqu mmo mwy mwn mma mwi mnu mmv c_wo w_wo ln bs tk lw li a1 b_ln b_bs b_tk b_lw (hw0) (hw1) (hw2) (hw3) (hw4) (hwz)) (cwV 1 hts gX10_draw___X10_isLaw_V89 rfl rfl rfl hd_yX10_isLaw ⟨lel 2 2 rfl, lel 46 46 rfl⟩) ⟨pw_fb, rcv_X10 hK hP (q0 := 0) rfl, (pw_use hP hK hN [0, 1] rfl [0] rfl)⟩ rfl rfl hl.1 rfl (lv_room (Nat.le_of_ble_eq_true rfl)) dX10_draw__2 ⟨lel 0 0 rfl, lel 0 0 rfl⟩) (fun r_14 h_r_14 => ?_)
  obtain ⟨b_r_14, nz_r_14⟩ := h_r_14
  have b_r_14 : (0 : Int) ≤ r_14.toInt ∧ r_14.toInt ≤ 1 := b_r_14
  refine lv_if_eq (tgt := 15) hx hb dX10_draw__5 (by decide) (fun c_15 => ?_) (fun c_15 => ?_)
  ·
    have n_c_15 : (r_14.toInt : Int) = 0 := c_eq rfl (by decide) c_15
    have b_r_14 : (0 : Int) ≤ r_14.toInt ∧ r_14.toInt ≤ 0 := r_eq1 b_r_14 (by decide : (0 : Int) ≤ (0 : Int32).toInt ∧ (0 : Int32).toInt ≤ 0) n_c_15 (by decide)
    refine lv_bipush (v := (-2)) hx hb dX10_draw__15 (by decide) ?_
    have hP9 := hP.sub (ws' := [(o0, .inr (8, [.int x_th, .ref mwo, .ref mim, .ref mhi, .ref mlu, .ref mtp, .int x_td, .ref mfv, .int x_sz, .int x_at, .int x_fr, .int x_to, .int x_va, .int x_fk, .int x_fp, .ref mfr, .ref mwt, .int x_wt, .int x_op, .int x_jo, .ref mfg, .ref mpl, .long x_dr, .ref mtm, .ref mfa, .ref mqu, .ref mmo, .ref mwy, .ref mwn, .ref mma, .ref mwi, .ref mnu, .ref mmv])), (mwo, .inl (c_wo, 1875, .inl w_wo)), (mlu, .inl (c_lu, 20000, .inl w_lu))]) [0, 1, 2] rfl
    have hD9 := hD.sub (ws' := [(o0, .inr (8, [.int x_th, .ref mwo, .ref mim, .ref mhi, .ref mlu, .ref mtp, .int x_td, .ref mfv, .int x_sz, .int x_at, .int x_fr, .int x_to, .int x_va, .int x_fk, .int x_fp, .ref mfr, .ref mwt, .int x_wt, .int x_op, .int x_jo, .ref mfg, .ref mpl, .long x_dr, .ref mtm, .ref mfa, .ref mqu, .ref mmo, .ref mwy, .ref mwn, .ref mma, .ref mwi, .ref mnu, .ref mmv])), (mwo, .inl (c_wo, 1875, .inl w_wo)), (mlu, .inl (c_lu, 20000, .inl w_lu))]) [0, 1, 2] (by decide) rfl
    have hK9 := hK.sub (tys' := [(c_wo, .int), (c_lu, .int)]) [0, 1] rfl
    exact W.iret (v := (-2)) hx hb hr (fun t ht hW => ⟨⟨(-2), (), rfl, (rg_w (by decide : (-2 : Int) ≤ ((-2) : Int32).toInt ∧ ((-2) : Int32).toInt ≤ -2) (by decide) (by decide)), x_dr, by rw [ht]; exact hP9, va_K.moved hW.alike hK9, hD9⟩, hS.F ht⟩) hS.2.2 dX10_draw__17
  ·
    have n_c_15 : (r_14.toInt : Int) ≠ 0 := c_ne rfl (by decide) c_15
    have b_r_14 : (1 : Int) ≤ r_14.toInt ∧ r_14.toInt ≤ 1 := r_ne1 b_r_14 (by decide : (0 : Int) ≤ (0 : Int32).toInt ∧ (0 : Int32).toInt ≤ 0) n_c_15 (by decide)
    obtain ⟨b_a1, g_16⟩ := nz_r_14 c_15
    refine lv_iload_n hx hb dX10_draw__8 rfl (lv_at hl 2 rfl) ?_
    refine vp_callSi (W.runS (As := [.int a2]) (rest := []) ⟨hx, hb, hml, hown, hts⟩ (kX10_isSeed l dC dI a2 ) (va_cwS 1 hts gX10_draw___X10_isSeed_S404 rfl rfl rfl hd_yX10_isSeed.2 ⟨lel 2 2 rfl, lel 45 46 rfl⟩) ⟨pn_fb, pn_use⟩ rfl rfl hl.1 rfl (lv_room (Nat.le_of_ble_eq_true rfl)) dX10_draw__9 ⟨lel 0 0 rfl, lel 0 0 rfl⟩) (fun r_17 h_r_17 => ?_)
    obtain ⟨b_r_17, nz_r_17⟩ := h_r_17
    have b_r_17 : (0 : Int) ≤ r_17.toInt ∧ r_17.toInt ≤ 1 := b_r_17
    refine lv_if_ne (tgt := 18) hx hb dX10_draw__12 (by decide) (fun c_18 => ?_) (fun c_18 => ?_)
    ·
      have n_c_18 : (r_17.toInt : Int) ≠ 0 := c_ne rfl (by decide) c_18
      have b_r_17 : (1 : Int) ≤ r_17.toInt ∧ r_17.toInt ≤ 1 := r_ne1 b_r_17 (by decide : (0 : Int) ≤ (0 : Int32).toInt ∧ (0 : Int32).toInt ≤ 0) n_c_18 (by decide)
      obtain ⟨b_a2, g_19⟩ := nz_r_17 c_18
      refine lv_aload_n hx hb dX10_draw__18 rfl (lv_at hl 0 rfl) ?_
      refine lv_iload_n hx hb dX10_draw__19 rfl (lv_at hl 1 rfl) ?_
      refine vp_callSi (W.runV (As := [.int a1]) (rest := []) ⟨hx, hb, hml, hown, hts⟩ (kX10_allOf l dC dI o0 x_th mwo mim mhi mlu mtp x_td mfv x_sz x_at x_fr x_to x_va x_fk x_fp mfr mwt x_wt x_op x_jo mfg mpl x_dr mtm mfa mqu mmo mwy mwn mma mwi mnu mmv c_wo c_lu w_wo w_lu ln bs tk lw li a1 b_ln b_bs b_tk b_lw (hw0) (hw1) (hw2) (hw3) (hw4) (hwz)) (cwV 1 hts gX10_draw___X10_allOf_V322 rfl rfl rfl hd_yX10_allOf ⟨lel 2 2 rfl, lel 45 46 rfl⟩) ⟨pw_fb, rcv_X10 hK hP (q0 := 0) rfl, (pw_use hP hK hN [0, 1, 2] rfl [0, 1] rfl)⟩ rfl rfl hl.1 rfl (lv_room (Nat.le_of_ble_eq_true rfl)) dX10_draw__20 ⟨lel 0 0 rfl, lel 0 0 rfl⟩) (fun r_20 h_r_20 => ?_)
      obtain ⟨b_r_20, pr_r_20⟩ := h_r_20
      have b_r_20 : (0 : Int) ≤ r_20.toInt ∧ r_20.toInt ≤ 20000 := b_r_20
      refine lv_istore_n (lv' := [(3, .int r_20), (0, .ref o0), (1, .int a1), (2, .int a2)]) hx hb dX10_draw__23 rfl hl (by decide) rfl (fun ls hl => ?_)
      refine lv_iload_n hx hb dX10_draw__24 rfl (lv_at hl 0 rfl) ?_
      refine lv_if_ne (tgt := 30) hx hb dX10_draw__25 (by decide) (fun c_21 => ?_) (fun c_21 => ?_)
      ·
        have n_c_21 : (r_20.toInt : Int) ≠ 0 := c_ne rfl (by decide) c_21
        have b_r_20 : (1 : Int) ≤ r_20.toInt ∧ r_20.toInt ≤ 20000 := r_ne1 b_r_20 (by decide : (0 : Int) ≤ (0 : Int32).toInt ∧ (0 : Int32).toInt ≤ 0) n_c_21 (by decide)
        refine lv_aload_n hx hb dX10_draw__30 rfl (lv_at hl 1 rfl) ?_
        refine lv_iload_n hx hb dX10_draw__31 rfl (lv_at hl 3 rfl) ?_
        obtain ⟨z_22, e_z_22⟩ : ∃ y : Int64, y = a2.toInt64 := ⟨_, rfl⟩
        refine lv_i2l (v := z_22) hx hb dX10_draw__32 e_z_22.symm ?_
        obtain ⟨q_z_22, b_z_22⟩ := ti_i2l e_z_22 b_a2
        refine va_put (D := (dC, dI)) (ci := 8) (v := .long z_22) (ty := .long) (C := RX10) (T := TX10) (N := 33) hx hb hts iX10_draw__X10 tyX10 tyX10_ok nmX10 hown hK hP hD hS 0 rfl rfl 22 (by decide) (hts (.fieldLink RX10 392 "LuckyTicketModel" "drawn" "J") (List.mem_of_getElem? (i := 10) rfl)) (fun _ h9 => h9) rfl (by decide +kernel) rfl rfl (Nat.le_of_ble_eq_true rfl) dX10_draw__33 (fun H locs hP hD hS => ?_)
        have hP : va_P (dC, dI) vwCl [(o0, .inr (8, [.int x_th, .ref mwo, .ref mim, .ref mhi, .ref mlu, .ref mtp, .int x_td, .ref mfv, .int x_sz, .int x_at, .int x_fr, .int x_to, .int x_va, .int x_fk, .int x_fp, .ref mfr, .ref mwt, .int x_wt, .int x_op, .int x_jo, .ref mfg, .ref mpl, .long z_22, .ref mtm, .ref mfa, .ref mqu, .ref mmo, .ref mwy, .ref mwn, .ref mma, .ref mwi, .ref mnu, .ref mmv])), (mwo, .inl (c_wo, 1875, .inl w_wo)), (mlu, .inl (c_lu, 20000, .inl w_lu))] H := hP
        have hD : va_D A [(o0, .inr (8, [.int x_th, .ref mwo, .ref mim, .ref mhi, .ref mlu, .ref mtp, .int x_td, .ref mfv, .int x_sz, .int x_at, .int x_fr, .int x_to, .int x_va, .int x_fk, .int x_fp, .ref mfr, .ref mwt, .int x_wt, .int x_op, .int x_jo, .ref mfg, .ref mpl, .long z_22, .ref mtm, .ref mfa, .ref mqu, .ref mmo, .ref mwy, .ref mwn, .ref mma, .ref mwi, .ref mnu, .ref mmv])), (mwo, .inl (c_wo, 1875, .inl w_wo)), (mlu, .inl (c_lu, 20000, .inl w_lu))] := hD
        refine lv_aload_n hx hb dX10_draw__36 rfl (lv_at hl 1 rfl) ?_
        refine lv_iload_n hx hb dX10_draw__37 rfl (lv_at hl 2 rfl) ?_
        refine lv_aload_n hx hb dX10_draw__38 rfl (lv_at hl 1 rfl) ?_
        refine lv_iload_n hx hb dX10_draw__39 rfl (lv_at hl 0 rfl) ?_
        have hFc := va_free (wc := [(o0, .inr (8, [.int x_th, .ref mwo, .ref mim, .ref mhi, .ref mlu, .ref mtp, .int x_td, .ref mfv, .int x_sz, .int x_at, .int x_fr, .int x_to, .int x_va, .int x_fk, .int x_fp, .ref mfr, .ref mwt, .int x_wt, .int x_op, .int x_jo, .ref mfg, .ref mpl, .long z_22, .ref mtm, .ref mfa, .ref mqu, .ref mmo, .ref mwy, .ref mwn, .ref mma, .ref mwi, .ref mnu, .ref mmv]))]) hD hS hA [0] rfl
        refine va_calli (va_runV (As := [.int r_20]) (rest := [.int a1, .ref o0]) ⟨hx, hb, hml, hown, hts⟩ (kX10_draw l dC dI o0 x_th mwo mim mhi mlu mtp x_td mfv x_sz x_at x_fr x_to x_va x_fk x_fp mfr mwt x_wt x_op x_jo mfg mpl z_22 mtm mfa mqu mmo mwy mwn mma mwi mnu mmv r_20 (H.size) (rg_w b_z_22 (by decide) (by decide)) b_r_20) (cwV 1 hts gX10_draw___X10_draw_V407 rfl rfl rfl hd_yX10_draw ⟨lel 1 2 rfl, lel 21 46 rfl⟩) ⟨hw_fb, rcv_X10 hK hP (q0 := 0) rfl, (hw_use hP hD hK hN [0] rfl (by decide) rfl [] rfl)⟩ rfl rfl hl.1 rfl (lv_room (Nat.le_of_ble_eq_true rfl)) dX10_draw__40 ⟨lel 0 0 rfl, lel 0 0 rfl⟩) hS (fun q _ h => hFc q h) hFc (fun r_23 u_24 t H1 locs ht hvm hw_r_23 hB hz1 hk1 hS => ?_)
        obtain ⟨o0_25, b_o0_25, hP1, hK1, hD1⟩ := hB
        rw [ht] at hP1
        have hK1 := va_K.moved hvm.symm hK1
        obtain ⟨hP, hD⟩ := va_join (wr := [(mwo, .inl (c_wo, 1875, .inl w_wo)), (mlu, .inl (c_lu, 20000, .inl w_lu))]) (w1 := [(o0, .inr (8, [.int x_th, .ref mwo, .ref mim, .ref mhi, .ref mlu, .ref mtp, .int x_td, .ref mfv, .int x_sz, .int x_at, .int x_fr, .int x_to, .int x_va, .int x_fk, .int x_fp, .ref mfr, .ref mwt, .int x_wt, .int x_op, .int x_jo, .ref mfg, .ref mpl, .long o0_25, .ref mtm, .ref mfa, .ref mqu, .ref mmo, .ref mwy, .ref mwn, .ref mma, .ref mwi, .ref mnu, .ref mmv]))]) hP hD [0] [1, 2] rfl rfl (by decide) (by decide) hk1 hFc hP1 hD1
        have hK := (hK.sub (tys' := [(c_wo, .int), (c_lu, .int)]) [0, 1] rfl).app hK1
        generalize H1 = H at hP hS ⊢
        have hP := hP.sub (ws' := [(o0, .inr (8, [.int x_th, .ref mwo, .ref mim, .ref mhi, .ref mlu, .ref mtp, .int x_td, .ref mfv, .int x_sz, .int x_at, .int x_fr, .int x_to, .int x_va, .int x_fk, .int x_fp, .ref mfr, .ref mwt, .int x_wt, .int x_op, .int x_jo, .ref mfg, .ref mpl, .long o0_25, .ref mtm, .ref mfa, .ref mqu, .ref mmo, .ref mwy, .ref mwn, .ref mma, .ref mwi, .ref mnu, .ref mmv])), (mwo, .inl (c_wo, 1875, .inl w_wo)), (mlu, .inl (c_lu, 20000, .inl w_lu))]) [2, 0, 1] rfl
        have hD := hD.sub (ws' := [(o0, .inr (8, [.int x_th, .ref mwo, .ref mim, .ref mhi, .ref mlu, .ref mtp, .int x_td, .ref mfv, .int x_sz, .int x_at, .int x_fr, .int x_to, .int x_va, .int x_fk, .int x_fp, .ref mfr, .ref mwt, .int x_wt, .int x_op, .int x_jo, .ref mfg, .ref mpl, .long o0_25, .ref mtm, .ref mfa, .ref mqu, .ref mmo, .ref mwy, .ref mwn, .ref mma, .ref mwi, .ref mnu, .ref mmv])), (mwo, .inl (c_wo, 1875, .inl w_wo)), (mlu, .inl (c_lu, 20000, .inl w_lu))]) [2, 0, 1] (by decide) rfl
        have hP : va_P (dC, dI) vwCl [(o0, .inr (8, [.int x_th, .ref mwo, .ref mim, .ref mhi, .ref mlu, .ref mtp, .int x_td, .ref mfv, .int x_sz, .int x_at, .int x_fr, .int x_to, .int x_va, .int x_fk, .int x_fp, .ref mfr, .ref mwt, .int x_wt, .int x_op, .int x_jo, .ref mfg, .ref mpl, .long o0_25, .ref mtm, .ref mfa, .ref mqu, .ref mmo, .ref mwy, .ref mwn, .ref mma, .ref mwi, .ref mnu, .ref mmv])), (mwo, .inl (c_wo, 1875, .inl w_wo)), (mlu, .inl (c_lu, 20000, .inl w_lu))] H := hP
        have hD : va_D A [(o0, .inr (8, [.int x_th, .ref mwo, .ref mim, .ref mhi, .ref mlu, .ref mtp, .int x_td, .ref mfv, .int x_sz, .int x_at, .int x_fr, .int x_to, .int x_va, .int x_fk, .int x_fp, .ref mfr, .ref mwt, .int x_wt, .int x_op, .int x_jo, .ref mfg, .ref mpl, .long o0_25, .ref mtm, .ref mfa, .ref mqu, .ref mmo, .ref mwy, .ref mwn, .ref mma, .ref mwi, .ref mnu, .ref mmv])), (mwo, .inl (c_wo, 1875, .inl w_wo)), (mlu, .inl (c_lu, 20000, .inl w_lu))] := hD
        have hK : va_K (dC, dI) vwCl [(c_wo, .int), (c_lu, .int)] s := hK
        obtain ⟨b_r_23, pr_r_23⟩ := hw_r_23
        have b_r_23 : (0 : Int) ≤ r_23.toInt ∧ r_23.toInt ≤ 19999 := b_r_23
        refine vp_callSi (W.runV (As := [.int a1, .int r_23]) (rest := []) ⟨hx, hb, hml, hown, hts⟩ (kX10_nthOf l dC dI o0 x_th mwo mim mhi mlu mtp x_td mfv x_sz x_at x_fr x_to x_va x_fk x_fp mfr mwt x_wt x_op x_jo mfg mpl o0_25 mtm mfa mqu mmo mwy mwn mma mwi mnu mmv c_wo c_lu w_wo w_lu ln bs tk lw li a1 r_23 b_ln b_bs b_tk b_lw (hw0) (hw1) (hw2) (hw3) (hw4) (hwz)) (cwV 2 hts gX10_draw___X10_nthOf_V331 rfl rfl rfl hd_yX10_nthOf ⟨lel 2 2 rfl, lel 46 46 rfl⟩) ⟨pw_fb, rcv_X10 hK hP (q0 := 0) rfl, (pw_use hP hK hN [0, 1, 2] rfl [0, 1] rfl)⟩ rfl rfl hl.1 rfl (lv_room (Nat.le_of_ble_eq_true rfl)) dX10_draw__43 ⟨lel 0 0 rfl, lel 0 0 rfl⟩) (fun r_26 h_r_26 => ?_)
        have b_r_26 := h_r_26
        have b_r_26 : (-1 : Int) ≤ r_26.toInt ∧ r_26.toInt ≤ 19999 := b_r_26
        have hP9 := hP.sub (ws' := [(o0, .inr (8, [.int x_th, .ref mwo, .ref mim, .ref mhi, .ref mlu, .ref mtp, .int x_td, .ref mfv, .int x_sz, .int x_at, .int x_fr, .int x_to, .int x_va, .int x_fk, .int x_fp, .ref mfr, .ref mwt, .int x_wt, .int x_op, .int x_jo, .ref mfg, .ref mpl, .long o0_25, .ref mtm, .ref mfa, .ref mqu, .ref mmo, .ref mwy, .ref mwn, .ref mma, .ref mwi, .ref mnu, .ref mmv])), (mwo, .inl (c_wo, 1875, .inl w_wo)), (mlu, .inl (c_lu, 20000, .inl w_lu))]) [0, 1, 2] rfl
        have hD9 := hD.sub (ws' := [(o0, .inr (8, [.int x_th, .ref mwo, .ref mim, .ref mhi, .ref mlu, .ref mtp, .int x_td, .ref mfv, .int x_sz, .int x_at, .int x_fr, .int x_to, .int x_va, .int x_fk, .int x_fp, .ref mfr, .ref mwt, .int x_wt, .int x_op, .int x_jo, .ref mfg, .ref mpl, .long o0_25, .ref mtm, .ref mfa, .ref mqu, .ref mmo, .ref mwy, .ref mwn, .ref mma, .ref mwi, .ref mnu, .ref mmv])), (mwo, .inl (c_wo, 1875, .inl w_wo)), (mlu, .inl (c_lu, 20000, .inl w_lu))]) [0, 1, 2] (by decide) rfl
        have hK9 := hK.sub (tys' := [(c_wo, .int), (c_lu, .int)]) [0, 1] rfl
        exact W.iret (v := r_26) hx hb hr (fun t ht hW => ⟨⟨r_26, (), rfl, (rg_w b_r_26 (by decide) (by decide)), o0_25, by rw [ht]; exact hP9, va_K.moved hW.alike hK9, hD9⟩, hS.F ht⟩) hS.2.2 dX10_draw__46
      ·
        have n_c_21 : (r_20.toInt : Int) = 0 := c_eq rfl (by decide) c_21
        have b_r_20 : (0 : Int) ≤ r_20.toInt ∧ r_20.toInt ≤ 0 := r_eq1 b_r_20 (by decide : (0 : Int) ≤ (0 : Int32).toInt ∧ (0 : Int32).toInt ≤ 0) n_c_21 (by decide)
        refine lv_iconst (v := (-1)) hx hb dX10_draw__28 (by decide) ?_
        have hP9 := hP.sub (ws' := [(o0, .inr (8, [.int x_th, .ref mwo, .ref mim, .ref mhi, .ref mlu, .ref mtp, .int x_td, .ref mfv, .int x_sz, .int x_at, .int x_fr, .int x_to, .int x_va, .int x_fk, .int x_fp, .ref mfr, .ref mwt, .int x_wt, .int x_op, .int x_jo, .ref mfg, .ref mpl, .long x_dr, .ref mtm, .ref mfa, .ref mqu, .ref mmo, .ref mwy, .ref mwn, .ref mma, .ref mwi, .ref mnu, .ref mmv])), (mwo, .inl (c_wo, 1875, .inl w_wo)), (mlu, .inl (c_lu, 20000, .inl w_lu))]) [0, 1, 2] rfl
        have hD9 := hD.sub (ws' := [(o0, .inr (8, [.int x_th, .ref mwo, .ref mim, .ref mhi, .ref mlu, .ref mtp, .int x_td, .ref mfv, .int x_sz, .int x_at, .int x_fr, .int x_to, .int x_va, .int x_fk, .int x_fp, .ref mfr, .ref mwt, .int x_wt, .int x_op, .int x_jo, .ref mfg, .ref mpl, .long x_dr, .ref mtm, .ref mfa, .ref mqu, .ref mmo, .ref mwy, .ref mwn, .ref mma, .ref mwi, .ref mnu, .ref mmv])), (mwo, .inl (c_wo, 1875, .inl w_wo)), (mlu, .inl (c_lu, 20000, .inl w_lu))]) [0, 1, 2] (by decide) rfl
        have hK9 := hK.sub (tys' := [(c_wo, .int), (c_lu, .int)]) [0, 1] rfl
        exact W.iret (v := (-1)) hx hb hr (fun t ht hW => ⟨⟨(-1), (), rfl, (rg_w (by decide : (-1 : Int) ≤ ((-1) : Int32).toInt ∧ ((-1) : Int32).toInt ≤ -1) (by decide) (by decide)), x_dr, by rw [ht]; exact hP9, va_K.moved hW.alike hK9, hD9⟩, hS.F ht⟩) hS.2.2 dX10_draw__29
    ·
      have n_c_18 : (r_17.toInt : Int) = 0 := c_eq rfl (by decide) c_18
      have b_r_17 : (0 : Int) ≤ r_17.toInt ∧ r_17.toInt ≤ 0 := r_eq1 b_r_17 (by decide : (0 : Int) ≤ (0 : Int32).toInt ∧ (0 : Int32).toInt ≤ 0) n_c_18 (by decide)
      refine lv_bipush (v := (-2)) hx hb dX10_draw__15 (by decide) ?_
      have hP9 := hP.sub (ws' := [(o0, .inr (8, [.int x_th, .ref mwo, .ref mim, .ref mhi, .ref mlu, .ref mtp, .int x_td, .ref mfv, .int x_sz, .int x_at, .int x_fr, .int x_to, .int x_va, .int x_fk, .int x_fp, .ref mfr, .ref mwt, .int x_wt, .int x_op, .int x_jo, .ref mfg, .ref mpl, .long x_dr, .ref mtm, .ref mfa, .ref mqu, .ref mmo, .ref mwy, .ref mwn, .ref mma, .ref mwi, .ref mnu, .ref mmv])), (mwo, .inl (c_wo, 1875, .inl w_wo)), (mlu, .inl (c_lu, 20000, .inl w_lu))]) [0, 1, 2] rfl
      have hD9 := hD.sub (ws' := [(o0, .inr (8, [.int x_th, .ref mwo, .ref mim, .ref mhi, .ref mlu, .ref mtp, .int x_td, .ref mfv, .int x_sz, .int x_at, .int x_fr, .int x_to, .int x_va, .int x_fk, .int x_fp, .ref mfr, .ref mwt, .int x_wt, .int x_op, .int x_jo, .ref mfg, .ref mpl, .long x_dr, .ref mtm, .ref mfa, .ref mqu, .ref mmo, .ref mwy, .ref mwn, .ref mma, .ref mwi, .ref mnu, .ref mmv])), (mwo, .inl (c_wo, 1875, .inl w_wo)), (mlu, .inl (c_lu, 20000, .inl w_lu))]) [0, 1, 2] (by decide) rfl
      have hK9 := hK.sub (tys' := [(c_wo, .int), (c_lu, .int)]) [0, 1] rfl
      exact W.iret (v := (-2)) hx hb hr (fun t ht hW => ⟨⟨(-2), (), rfl, (rg_w (by decide : (-2 : Int) ≤ ((-2) : Int32).toInt ∧ ((-2) : Int32).toInt ≤ -2) (by decide) (by decide)), x_dr, by rw [ht]; exact hP9, va_K.moved hW.alike hK9, hD9⟩, hS.F ht⟩) hS.2.2 dX10_draw__17
theorem dX10_sold_0 : decode cX10_sold 0 = .ok (.aload_n 0, 1) := by decide +kernel
theorem dX10_sold_1 : decode cX10_sold 1 = .ok (.iload_n 1, 1) := by decide +kernel
theorem dX10_sold_2 : decode cX10_sold 2 = .ok (.iload_n 2, 1) := by decide +kernel
theorem dX10_sold_3 : decode cX10_sold 3 = .ok (.iload_n 3, 1) := by decide +kernel
theorem dX10_sold_4 : decode cX10_sold 4 = .ok (.invokevirtual 410, 3) := by decide +kernel
theorem dX10_sold_7 : decode cX10_sold 7 = .ok (.ifCond .ne 6, 3) := by decide +kernel
theorem dX10_sold_10 : decode cX10_sold 10 = .ok (.bipush (-2), 2) := by decide +kernel
theorem dX10_sold_12 : decode cX10_sold 12 = .ok (.ireturn, 1) := by decide +kernel
theorem dX10_sold_13 : decode cX10_sold 13 = .ok (.aload_n 0, 1) := by decide +kernel
theorem dX10_sold_14 : decode cX10_sold 14 = .ok (.iload_n 2, 1) := by decide +kernel
theorem dX10_sold_15 : decode cX10_sold 15 = .ok (.i2l, 1) := by decide +kernel
theorem dX10_sold_16 : decode cX10_sold 16 = .ok (.putfield 392, 3) := by decide +kernel
theorem dX10_sold_19 : decode cX10_sold 19 = .ok (.iconst 0, 1) := by decide +kernel
theorem dX10_sold_20 : decode cX10_sold 20 = .ok (.istore 4, 2) := by decide +kernel
theorem dX10_sold_22 : decode cX10_sold 22 = .ok (.iconst 0, 1) := by decide +kernel
theorem dX10_sold_23 : decode cX10_sold 23 = .ok (.istore 5, 2) := by decide +kernel
theorem dX10_sold_25 : decode cX10_sold 25 = .ok (.iload 5, 2) := by decide +kernel
theorem dX10_sold_27 : decode cX10_sold 27 = .ok (.iload_n 3, 1) := by decide +kernel
theorem dX10_sold_28 : decode cX10_sold 28 = .ok (.if_icmp .ge 37, 3) := by decide +kernel
theorem dX10_sold_31 : decode cX10_sold 31 = .ok (.iload 4, 2) := by decide +kernel
theorem dX10_sold_33 : decode cX10_sold 33 = .ok (.aload_n 0, 1) := by decide +kernel
theorem dX10_sold_34 : decode cX10_sold 34 = .ok (.iload_n 1, 1) := by decide +kernel
theorem dX10_sold_35 : decode cX10_sold 35 = .ok (.aload_n 0, 1) := by decide +kernel
theorem dX10_sold_36 : decode cX10_sold 36 = .ok (.aload_n 0, 1) := by decide +kernel
theorem dX10_sold_37 : decode cX10_sold 37 = .ok (.getfield 9, 3) := by decide +kernel
theorem dX10_sold_40 : decode cX10_sold 40 = .ok (.iconst 2, 1) := by decide +kernel
theorem dX10_sold_41 : decode cX10_sold 41 = .ok (.iaload, 1) := by decide +kernel
theorem dX10_sold_42 : decode cX10_sold 42 = .ok (.invokevirtual 407, 3) := by decide +kernel
theorem dX10_sold_45 : decode cX10_sold 45 = .ok (.invokevirtual 316, 3) := by decide +kernel
theorem dX10_sold_48 : decode cX10_sold 48 = .ok (.ifCond .eq 7, 3) := by decide +kernel
theorem dX10_sold_51 : decode cX10_sold 51 = .ok (.iconst 1, 1) := by decide +kernel
theorem dX10_sold_52 : decode cX10_sold 52 = .ok (.goto 4, 3) := by decide +kernel
theorem dX10_sold_55 : decode cX10_sold 55 = .ok (.iconst 0, 1) := by decide +kernel
theorem dX10_sold_56 : decode cX10_sold 56 = .ok (.iadd, 1) := by decide +kernel
theorem dX10_sold_57 : decode cX10_sold 57 = .ok (.istore 4, 2) := by decide +kernel
theorem dX10_sold_59 : decode cX10_sold 59 = .ok (.iinc 5 1, 3) := by decide +kernel
theorem dX10_sold_62 : decode cX10_sold 62 = .ok (.goto (-37), 3) := by decide +kernel
theorem dX10_sold_65 : decode cX10_sold 65 = .ok (.iload 4, 2) := by decide +kernel
theorem dX10_sold_67 : decode cX10_sold 67 = .ok (.ireturn, 1) := by decide +kernel
theorem hd_yX10_sold : yX10_sold.cls = RX10 ∧ yX10_sold.cls ≠ "java/lang/invoke/MethodHandle" ∧ yX10_sold.cls ≠ "java/lang/invoke/VarHandle" ∧ (parseMethodDescriptor yX10_sold.desc).map (fun d => d.parameters.length) = some 3 := by decide +kernel
def uX10_sold : List Cond := List.cons (.code yX10_sold cX10_sold 6 (some .int)) (HAppend.hAppend ([.methodLink RX10 410 yX10_isSale, .instanceMethod yX10_isSale, .selects RX10 yX10_isSale yX10_isSale, .initialized RX10, .fieldLink RX10 392 "LuckyTicketModel" "drawn" "J", .fieldLink RX10 9 "LuckyTicketModel" "world" "[I", .methodLink RX10 407 yX10_draw, .instanceMethod yX10_draw, .selects RX10 yX10_draw yX10_draw, .methodLink RX10 316 yX10_isLucky, .instanceMethod yX10_isLucky, .selects RX10 yX10_isLucky yX10_isLucky] : List Cond) (HAppend.hAppend uX10_isSale (HAppend.hAppend uX10_draw (HAppend.hAppend uX10_isLucky wsX100))))
theorem iX10_sold_X10 : ∀ w ∈ wsX100, w ∈ uX10_sold := fun _ h => (List.mem_cons_of_mem _ (List.mem_append_right _ (List.mem_append_right _ (List.mem_append_right _ (List.mem_append_right _ h)))))
theorem guX10_sold : GU uX10_sold := gu_cons (gu_app (by decide +kernel) (gu_ap guX10_isSale (gu_ap guX10_draw (gu_ap guX10_isLucky gws_X10))))
theorem gX10_sold__X10_isSale_V410 : GoodIn uX10_sold (wsV RX10 410 RX10 yX10_isSale uX10_isSale) := gin_V (List.mem_of_getElem? (i := 1) rfl) (List.mem_of_getElem? (i := 2) rfl) (List.mem_of_getElem? (i := 3) rfl) (List.mem_of_getElem? (i := 4) rfl) (fun _ h => (List.mem_cons_of_mem _ (List.mem_append_right _ (List.mem_append_left _ h)))) guX10_isSale
theorem gX10_sold__X10_draw_V407 : GoodIn uX10_sold (wsV RX10 407 RX10 yX10_draw uX10_draw) := gin_V (List.mem_of_getElem? (i := 7) rfl) (List.mem_of_getElem? (i := 8) rfl) (List.mem_of_getElem? (i := 9) rfl) (List.mem_of_getElem? (i := 4) rfl) (fun _ h => (List.mem_cons_of_mem _ (List.mem_append_right _ (List.mem_append_right _ (List.mem_append_left _ h))))) guX10_draw
theorem gX10_sold__X10_isLucky_V316 : GoodIn uX10_sold (wsV RX10 316 RX10 yX10_isLucky uX10_isLucky) := gin_V (List.mem_of_getElem? (i := 10) rfl) (List.mem_of_getElem? (i := 11) rfl) (List.mem_of_getElem? (i := 12) rfl) (List.mem_of_getElem? (i := 4) rfl) (fun _ h => (List.mem_cons_of_mem _ (List.mem_append_right _ (List.mem_append_right _ (List.mem_append_right _ (List.mem_append_left _ h)))))) guX10_isLucky
set_option maxHeartbeats 4000000 in
set_option maxRecDepth 100000 in
theorem kX10_sold (l : Launch) (dC : Nat → ClassId) (dI : Nat → Nat → Nat) (o0 : Nat) (x_th : Int32) (mwo : Nat) (mim : Nat) (mhi : Nat) (mlu : Nat) (mtp : Nat) (x_td : Int32) (mfv : Nat) (x_sz : Int32) (x_at : Int32) (x_fr : Int32) (x_to : Int32) (x_va : Int32) (x_fk : Int32) (x_fp : Int32) (mfr : Nat) (mwt : Nat) (x_wt : Int32) (x_op : Int32) (x_jo : Int32) (mfg : Nat) (mpl : Nat) (x_dr : Int64) (mtm : Nat) (mfa : Nat) (mqu : Nat) (mmo : Nat) (mwy : Nat) (mwn : Nat) (mma : Nat) (mwi : Nat) (mnu : Nat) (mmv : Nat) (c_wo : ClassId) (c_lu : ClassId) (w_wo : Nat → Int32) (w_lu : Nat → Int32) (ln : Int32) (bs : Int32) (tk : Int32) (lw : Int32) (li : Int32) (a1 : Int32) (a2 : Int32) (a3 : Int32) (sz : Nat) (b_ln : (0 : Int) ≤ ln.toInt ∧ ln.toInt ≤ 12) (b_bs : (0 : Int) ≤ bs.toInt ∧ bs.toInt ≤ 16) (b_tk : (0 : Int) ≤ tk.toInt ∧ tk.toInt ≤ 20000) (b_lw : (0 : Int) ≤ lw.toInt ∧ lw.toInt ≤ 9) (hw0 : w_wo 0 = ln) (hw1 : w_wo 1 = bs) (hw2 : w_wo 2 = tk) (hw3 : w_wo 3 = lw) (hw4 : w_wo 4 = li) (hwz : (ln.toInt = 0 ∧ bs.toInt = 0 ∧ tk.toInt = 0 ∧ lw.toInt = 0) ∨ (1 ≤ ln.toInt ∧ 2 ≤ bs.toInt ∧ 1 ≤ tk.toInt)) : Met l yX10_sold uX10_sold ({ frames := 3, cells := 0, slots := 0, locals := 69 }) (va_Pc [.ref o0, .int a1, .int a2, .int a3] (hw (dC, dI) vwCl [(o0, .inr (8, [.int x_th, .ref mwo, .ref mim, .ref mhi, .ref mlu, .ref mtp, .int x_td, .ref mfv, .int x_sz, .int x_at, .int x_fr, .int x_to, .int x_va, .int x_fk, .int x_fp, .ref mfr, .ref mwt, .int x_wt, .int x_op, .int x_jo, .ref mfg, .ref mpl, .long x_dr, .ref mtm, .ref mfa, .ref mqu, .ref mmo, .ref mwy, .ref mwn, .ref mma, .ref mwi, .ref mnu, .ref mmv])), (mwo, .inl (c_wo, 1875, .inl w_wo)), (mlu, .inl (c_lu, 20000, .inl w_lu))] [(c_wo, .int), (c_lu, .int)] sz)) (va_Qi (fun (r : Int32) (_ : Unit) => True) (fun (_ : Unit) t => ∃ (o0_ : Int64), va_P (dC, dI) vwCl [(o0, .inr (8, [.int x_th, .ref mwo, .ref mim, .ref mhi, .ref mlu, .ref mtp, .int x_td, .ref mfv, .int x_sz, .int x_at, .int x_fr, .int x_to, .int x_va, .int x_fk, .int x_fp, .ref mfr, .ref mwt, .int x_wt, .int x_op, .int x_jo, .ref mfg, .ref mpl, .long o0_, .ref mtm, .ref mfa, .ref mqu, .ref mmo, .ref mwy, .ref mwn, .ref mma, .ref mwi, .ref mnu, .ref mmv])), (mwo, .inl (c_wo, 1875, .inl w_wo)), (mlu, .inl (c_lu, 20000, .inl w_lu))] t.heap ∧ va_K (dC, dI) vwCl [(c_wo, .int), (c_lu, .int)] t ∧ va_D (va_A [(o0, .inr (8, [.int x_th, .ref mwo, .ref mim, .ref mhi, .ref mlu, .ref mtp, .int x_td, .ref mfv, .int x_sz, .int x_at, .int x_fr, .int x_to, .int x_va, .int x_fk, .int x_fp, .ref mfr, .ref mwt, .int x_wt, .int x_op, .int x_jo, .ref mfg, .ref mpl, .long x_dr, .ref mtm, .ref mfa, .ref mqu, .ref mmo, .ref mwy, .ref mwn, .ref mma, .ref mwi, .ref mnu, .ref mmv])), (mwo, .inl (c_wo, 1875, .inl w_wo)), (mlu, .inl (c_lu, 20000, .inl w_lu))] sz) [(o0, .inr (8, [.int x_th, .ref mwo, .ref mim, .ref mhi, .ref mlu, .ref mtp, .int x_td, .ref mfv, .int x_sz, .int x_at, .int x_fr, .int x_to, .int x_va, .int x_fk, .int x_fp, .ref mfr, .ref mwt, .int x_wt, .int x_op, .int x_jo, .ref mfg, .ref mpl, .long o0_, .ref mtm, .ref mfa, .ref mqu, .ref mmo, .ref mwy, .ref mwn, .ref mma, .ref mwi, .ref mnu, .ref mmv])), (mwo, .inl (c_wo, 1875, .inl w_wo)), (mlu, .inl (c_lu, 20000, .inl w_lu))]) (va_A [(o0, .inr (8, [.int x_th, .ref mwo, .ref mim, .ref mhi, .ref mlu, .ref mtp, .int x_td, .ref mfv, .int x_sz, .int x_at, .int x_fr, .int x_to, .int x_va, .int x_fk, .int x_fp, .ref mfr, .ref mwt, .int x_wt, .int x_op, .int x_jo, .ref mfg, .ref mpl, .long x_dr, .ref mtm, .ref mfa, .ref mqu, .ref mmo, .ref mwy, .ref mwn, .ref mma, .ref mwi, .ref mnu, .ref mmv])), (mwo, .inl (c_wo, 1875, .inl w_wo)), (mlu, .inl (c_lu, 20000, .inl w_lu))] sz)) 0 0 (va_A [(o0, .inr (8, [.int x_th, .ref mwo, .ref mim, .ref mhi, .ref mlu, .ref mtp, .int x_td, .ref mfv, .int x_sz, .int x_at, .int x_fr, .int x_to, .int x_va, .int x_fk, .int x_fp, .ref mfr, .ref mwt, .int x_wt, .int x_op, .int x_jo, .ref mfg, .ref mpl, .long x_dr, .ref mtm, .ref mfa, .ref mqu, .ref mmo, .ref mwy, .ref mwn, .ref mma, .ref mwi, .ref mnu, .ref mmv])), (mwo, .inl (c_wo, 1875, .inl w_wo)), (mlu, .inl (c_lu, 20000, .inl w_lu))] sz) := by
  refine Met.ofW (cc := cX10_sold) (maxL := 6) (ret := (some .int)) pn_X10 rfl ?_
  intro p e s m args below meth c s₁ B hml hv
  obtain ⟨rfl, hsz, hP, hK, hD0, hN⟩ := hv
  have hx := B.exec
  have hb := B.bytes
  have hr := B.returns
  have hts := atoms_spec (ws := uX10_sold) B.pre
  have hown : s.vm.findClass RX10 = some m.cls := hown_of B.named rfl
  have hlocks := B.notSynchronized
  subst hsz
  have hD := hD0.self (sz := s.heap.size)
  generalize hAe : va_A [(o0, .inr (8, [.int x_th, .ref mwo, .ref mim, .ref mhi, .ref mlu, .ref mtp, .int x_td, .ref mfv, .int x_sz, .int x_at, .int x_fr, .int x_to, .int x_va, .int x_fk, .int x_fp, .ref mfr, .ref mwt, .int x_wt, .int x_op, .int x_jo, .ref mfg, .ref mpl, .long x_dr, .ref mtm, .ref mfa, .ref mqu, .ref mmo, .ref mwy, .ref mwn, .ref mma, .ref mwi, .ref mnu, .ref mmv])), (mwo, .inl (c_wo, 1875, .inl w_wo)), (mlu, .inl (c_lu, 20000, .inl w_lu))] s.heap.size = A at hD ⊢
  have hA : ∀ q : Nat, s.heap.size ≤ q → A q := fun q h => by rw [← hAe]; exact Or.inr h
  have hS : va_S A s.heap s.heap [] := va_S.rf
  have hP : va_P (dC, dI) vwCl [(o0, .inr (8, [.int x_th, .ref mwo, .ref mim, .ref mhi, .ref mlu, .ref mtp, .int x_td, .ref mfv, .int x_sz, .int x_at, .int x_fr, .int x_to, .int x_va, .int x_fk, .int x_fp, .ref mfr, .ref mwt, .int x_wt, .int x_op, .int x_jo, .ref mfg, .ref mpl, .long x_dr, .ref mtm, .ref mfa, .ref mqu, .ref mmo, .ref mwy, .ref mwn, .ref mma, .ref mwi, .ref mnu, .ref mmv])), (mwo, .inl (c_wo, 1875, .inl w_wo)), (mlu, .inl (c_lu, 20000, .inl w_lu))] s.heap := hP
  have hl := lv_entry ([.ref o0, .int a1, .int a2, .int a3]) (n := 6) (Nat.le_of_ble_eq_true rfl)
  rw [lg_entry_eq]
  generalize (lg_sl ([.ref o0, .int a1, .int a2, .int a3]) ++ List.replicate (6 - (lg_sl ([.ref o0, .int a1, .int a2, .int a3])).length) Slot.unset).toArray = ls at hl ⊢
  have hl : lv_has ls 6 [(0, .ref o0), (1, .int a1), (2, .int a2), (3, .int a3)] := hl
  refine lv_aload_n hx hb dX10_sold_0 rfl (lv_at hl 0 rfl) ?_
  refine lv_iload_n hx hb dX10_sold_1 rfl (lv_at hl 1 rfl) ?_
  refine lv_iload_n hx hb dX10_sold_2 rfl (lv_at hl 2 rfl) ?_
  refine lv_iload_n hx hb dX10_sold_3 rfl (lv_at hl 3 rfl) ?_
  refine vp_callSi (W.runV (As := [.int a1, .int a2, .int a3]) (rest := []) ⟨hx, hb, hml, hown, hts⟩ (kX10_isSale l dC dI o0 x_th mwo mim mhi mlu mtp x_td mfv x_sz x_at x_fr x_to x_va x_fk x_fp mfr mwt x_wt x_op x_jo mfg mpl x_dr mtm mfa mqu mmo mwy mwn mma mwi mnu mmv c_wo w_wo ln bs tk lw li a1 a2 a3 b_ln b_bs b_tk b_lw (hw0) (hw1) (hw2) (hw3) (hw4) (hwz)) (cwV 3 hts gX10_sold__X10_isSale_V410 rfl rfl rfl hd_yX10_isSale ⟨lel 3 3 rfl, lel 69 69 rfl⟩) ⟨pw_fb, rcv_X10 hK hP (q0 := 0) rfl, (pw_use hP hK hN [0, 1] rfl [0] rfl)⟩ rfl rfl hl.1 rfl (lv_room (Nat.le_of_ble_eq_true rfl)) dX10_sold_4 ⟨lel 0 0 rfl, lel 0 0 rfl⟩) (fun r_178 h_r_178 => ?_)
  obtain ⟨b_r_178, nz_r_178⟩ := h_r_178
  have b_r_178 : (0 : Int) ≤ r_178.toInt ∧ r_178.toInt ≤ 1 := b_r_178
  refine lv_if_ne (tgt := 13) hx hb dX10_sold_7 (by decide) (fun c_179 => ?_) (fun c_179 => ?_)
  ·
    have n_c_179 : (r_178.toInt : Int) ≠ 0 := c_ne rfl (by decide) c_179
    have b_r_178 : (1 : Int) ≤ r_178.toInt ∧ r_178.toInt ≤ 1 := r_ne1 b_r_178 (by decide : (0 : Int) ≤ (0 : Int32).toInt ∧ (0 : Int32).toInt ≤ 0) n_c_179 (by decide)
    obtain ⟨b_a1, b_a2, b_a3, g_180⟩ := nz_r_178 c_179
    refine lv_aload_n hx hb dX10_sold_13 rfl (lv_at hl 0 rfl) ?_
    refine lv_iload_n hx hb dX10_sold_14 rfl (lv_at hl 2 rfl) ?_
    obtain ⟨z_181, e_z_181⟩ : ∃ y : Int64, y = a2.toInt64 := ⟨_, rfl⟩
    refine lv_i2l (v := z_181) hx hb dX10_sold_15 e_z_181.symm ?_
    obtain ⟨q_z_181, b_z_181⟩ := ti_i2l e_z_181 b_a2
    refine va_put (D := (dC, dI)) (ci := 8) (v := .long z_181) (ty := .long) (C := RX10) (T := TX10) (N := 33) hx hb hts iX10_sold_X10 tyX10 tyX10_ok nmX10 hown hK hP hD hS 0 rfl rfl 22 (by decide) (hts (.fieldLink RX10 392 "LuckyTicketModel" "drawn" "J") (List.mem_of_getElem? (i := 5) rfl)) (fun _ h9 => h9) rfl (by decide +kernel) rfl rfl (Nat.le_of_ble_eq_true rfl) dX10_sold_16 (fun H locs hP hD hS => ?_)
    have hP : va_P (dC, dI) vwCl [(o0, .inr (8, [.int x_th, .ref mwo, .ref mim, .ref mhi, .ref mlu, .ref mtp, .int x_td, .ref mfv, .int x_sz, .int x_at, .int x_fr, .int x_to, .int x_va, .int x_fk, .int x_fp, .ref mfr, .ref mwt, .int x_wt, .int x_op, .int x_jo, .ref mfg, .ref mpl, .long z_181, .ref mtm, .ref mfa, .ref mqu, .ref mmo, .ref mwy, .ref mwn, .ref mma, .ref mwi, .ref mnu, .ref mmv])), (mwo, .inl (c_wo, 1875, .inl w_wo)), (mlu, .inl (c_lu, 20000, .inl w_lu))] H := hP
    have hD : va_D A [(o0, .inr (8, [.int x_th, .ref mwo, .ref mim, .ref mhi, .ref mlu, .ref mtp, .int x_td, .ref mfv, .int x_sz, .int x_at, .int x_fr, .int x_to, .int x_va, .int x_fk, .int x_fp, .ref mfr, .ref mwt, .int x_wt, .int x_op, .int x_jo, .ref mfg, .ref mpl, .long z_181, .ref mtm, .ref mfa, .ref mqu, .ref mmo, .ref mwy, .ref mwn, .ref mma, .ref mwi, .ref mnu, .ref mmv])), (mwo, .inl (c_wo, 1875, .inl w_wo)), (mlu, .inl (c_lu, 20000, .inl w_lu))] := hD
    refine lv_iconst (v := 0) hx hb dX10_sold_19 (by decide) ?_
    refine lv_istore (lv' := [(4, .int 0), (0, .ref o0), (1, .int a1), (2, .int a2), (3, .int a3)]) hx hb dX10_sold_20 hl (by decide) rfl (fun ls hl => ?_)
    refine lv_iconst (v := 0) hx hb dX10_sold_22 (by decide) ?_
    refine lv_istore (lv' := [(5, .int 0), (4, .int 0), (0, .ref o0), (1, .int a1), (2, .int a2), (3, .int a3)]) hx hb dX10_sold_23 hl (by decide) rfl (fun ls hl => ?_)
    refine loopW (σ := Int32 × Int32 × Int64) (fun v => (60 - v.1.toInt).toNat) (fun v H locs ls => ((0 : Int) ≤ v.1.toInt ∧ v.1.toInt ≤ 60) ∧ ((0 : Int) ≤ v.2.2.toInt ∧ v.2.2.toInt ≤ 2147483647) ∧ va_P (dC, dI) vwCl [(o0, .inr (8, [.int x_th, .ref mwo, .ref mim, .ref mhi, .ref mlu, .ref mtp, .int x_td, .ref mfv, .int x_sz, .int x_at, .int x_fr, .int x_to, .int x_va, .int x_fk, .int x_fp, .ref mfr, .ref mwt, .int x_wt, .int x_op, .int x_jo, .ref mfg, .ref mpl, .long v.2.2, .ref mtm, .ref mfa, .ref mqu, .ref mmo, .ref mwy, .ref mwn, .ref mma, .ref mwi, .ref mnu, .ref mmv])), (mwo, .inl (c_wo, 1875, .inl w_wo)), (mlu, .inl (c_lu, 20000, .inl w_lu))] H ∧ va_D A [(o0, .inr (8, [.int x_th, .ref mwo, .ref mim, .ref mhi, .ref mlu, .ref mtp, .int x_td, .ref mfv, .int x_sz, .int x_at, .int x_fr, .int x_to, .int x_va, .int x_fk, .int x_fp, .ref mfr, .ref mwt, .int x_wt, .int x_op, .int x_jo, .ref mfg, .ref mpl, .long v.2.2, .ref mtm, .ref mfa, .ref mqu, .ref mmo, .ref mwy, .ref mwn, .ref mma, .ref mwi, .ref mnu, .ref mmv])), (mwo, .inl (c_wo, 1875, .inl w_wo)), (mlu, .inl (c_lu, 20000, .inl w_lu))] ∧ va_S A s.heap H locs ∧ lv_has ls 6 [(5, .int v.1), (4, .int v.2.1), (0, .ref o0), (1, .int a1), (2, .int a2), (3, .int a3)]) (fun v H locs ls hI ih_25_344 => ?_) ((0 : Int32), (0 : Int32), z_181) ⟨(show (0 : Int) ≤ (0 : Int32).toInt ∧ (0 : Int32).toInt ≤ 60 from (rg_w (by decide : (0 : Int) ≤ (0 : Int32).toInt ∧ (0 : Int32).toInt ≤ 0) (by decide) (by decide))), (show (0 : Int) ≤ z_181.toInt ∧ z_181.toInt ≤ 2147483647 from (rg_w b_z_181 (by decide) (by decide))), hP, hD, hS, lv_sub hl [0, 1, 2, 3, 4, 5] rfl⟩
    obtain ⟨y_192, y_193, y_194⟩ := v
    obtain ⟨b_y_192, b_y_194, hP, hD, hS, hl⟩ := hI
    have b_y_192 : (0 : Int) ≤ y_192.toInt ∧ y_192.toInt ≤ 60 := b_y_192
    have b_y_194 : (0 : Int) ≤ y_194.toInt ∧ y_194.toInt ≤ 2147483647 := b_y_194
    have hP : va_P (dC, dI) vwCl [(o0, .inr (8, [.int x_th, .ref mwo, .ref mim, .ref mhi, .ref mlu, .ref mtp, .int x_td, .ref mfv, .int x_sz, .int x_at, .int x_fr, .int x_to, .int x_va, .int x_fk, .int x_fp, .ref mfr, .ref mwt, .int x_wt, .int x_op, .int x_jo, .ref mfg, .ref mpl, .long y_194, .ref mtm, .ref mfa, .ref mqu, .ref mmo, .ref mwy, .ref mwn, .ref mma, .ref mwi, .ref mnu, .ref mmv])), (mwo, .inl (c_wo, 1875, .inl w_wo)), (mlu, .inl (c_lu, 20000, .inl w_lu))] H := hP
    have hD : va_D A [(o0, .inr (8, [.int x_th, .ref mwo, .ref mim, .ref mhi, .ref mlu, .ref mtp, .int x_td, .ref mfv, .int x_sz, .int x_at, .int x_fr, .int x_to, .int x_va, .int x_fk, .int x_fp, .ref mfr, .ref mwt, .int x_wt, .int x_op, .int x_jo, .ref mfg, .ref mpl, .long y_194, .ref mtm, .ref mfa, .ref mqu, .ref mmo, .ref mwy, .ref mwn, .ref mma, .ref mwi, .ref mnu, .ref mmv])), (mwo, .inl (c_wo, 1875, .inl w_wo)), (mlu, .inl (c_lu, 20000, .inl w_lu))] := hD
    have hl : lv_has ls 6 [(5, .int y_192), (4, .int y_193), (0, .ref o0), (1, .int a1), (2, .int a2), (3, .int a3)] := hl
    refine lv_iload hx hb dX10_sold_25 (lv_at hl 0 rfl) ?_
    refine lv_iload_n hx hb dX10_sold_27 rfl (lv_at hl 5 rfl) ?_
    refine lv_icmp_ge (tgt := 65) hx hb dX10_sold_28 (by decide) (fun c_345 => ?_) (fun c_345 => ?_)
    ·
      have n_c_345 : (a3.toInt : Int) ≤ y_192.toInt := c_ge rfl rfl c_345
      have b_y_192 : (1 : Int) ≤ y_192.toInt ∧ y_192.toInt ≤ 60 := r_le2 b_a3 b_y_192 n_c_345 (by decide)
      refine lv_iload hx hb dX10_sold_65 (lv_at hl 1 rfl) ?_
      have hP9 := hP.sub (ws' := [(o0, .inr (8, [.int x_th, .ref mwo, .ref mim, .ref mhi, .ref mlu, .ref mtp, .int x_td, .ref mfv, .int x_sz, .int x_at, .int x_fr, .int x_to, .int x_va, .int x_fk, .int x_fp, .ref mfr, .ref mwt, .int x_wt, .int x_op, .int x_jo, .ref mfg, .ref mpl, .long y_194, .ref mtm, .ref mfa, .ref mqu, .ref mmo, .ref mwy, .ref mwn, .ref mma, .ref mwi, .ref mnu, .ref mmv])), (mwo, .inl (c_wo, 1875, .inl w_wo)), (mlu, .inl (c_lu, 20000, .inl w_lu))]) [0, 1, 2] rfl
      have hD9 := hD.sub (ws' := [(o0, .inr (8, [.int x_th, .ref mwo, .ref mim, .ref mhi, .ref mlu, .ref mtp, .int x_td, .ref mfv, .int x_sz, .int x_at, .int x_fr, .int x_to, .int x_va, .int x_fk, .int x_fp, .ref mfr, .ref mwt, .int x_wt, .int x_op, .int x_jo, .ref mfg, .ref mpl, .long y_194, .ref mtm, .ref mfa, .ref mqu, .ref mmo, .ref mwy, .ref mwn, .ref mma, .ref mwi, .ref mnu, .ref mmv])), (mwo, .inl (c_wo, 1875, .inl w_wo)), (mlu, .inl (c_lu, 20000, .inl w_lu))]) [0, 1, 2] (by decide) rfl
      have hK9 := hK.sub (tys' := [(c_wo, .int), (c_lu, .int)]) [0, 1] rfl
      exact W.iret (v := y_193) hx hb hr (fun t ht hW => ⟨⟨y_193, (), rfl, trivial, y_194, by rw [ht]; exact hP9, va_K.moved hW.alike hK9, hD9⟩, hS.F ht⟩) hS.2.2 dX10_sold_67
    ·
      have n_c_345 : (y_192.toInt : Int) < a3.toInt := c_nge rfl rfl c_345
      have b_y_192 : (0 : Int) ≤ y_192.toInt ∧ y_192.toInt ≤ 59 := r_lt1 b_y_192 b_a3 n_c_345 (by decide)
      refine lv_iload hx hb dX10_sold_31 (lv_at hl 1 rfl) ?_
      refine lv_aload_n hx hb dX10_sold_33 rfl (lv_at hl 2 rfl) ?_
      refine lv_iload_n hx hb dX10_sold_34 rfl (lv_at hl 3 rfl) ?_
      refine lv_aload_n hx hb dX10_sold_35 rfl (lv_at hl 2 rfl) ?_
      refine lv_aload_n hx hb dX10_sold_36 rfl (lv_at hl 2 rfl) ?_
      refine va_get (D := (dC, dI)) (ci := 8) (v := .ref mwo) (C := RX10) (T := TX10) (N := 33) hx hb hts iX10_sold_X10 hown hK hP 0 rfl rfl 1 (by decide) (hts (.fieldLink RX10 9 "LuckyTicketModel" "world" "[I") (List.mem_of_getElem? (i := 6) rfl)) (fun _ h9 => h9) rfl dX10_sold_37 ?_
      refine lv_iconst (v := 2) hx hb dX10_sold_40 (by decide) ?_
      refine va_iald hx hb hK hP 1 0 rfl rfl (vp_in_b (by decide : (2 : Int) ≤ (2 : Int32).toInt ∧ (2 : Int32).toInt ≤ 2) (by decide) (by decide)) dX10_sold_41 ?_
      refine lv_topi (fun z_346 e_z_346 => ?_)
      obtain rfl : tk = z_346 := (e_z_346.trans hw2).symm
      have hFc := va_free (wc := [(o0, .inr (8, [.int x_th, .ref mwo, .ref mim, .ref mhi, .ref mlu, .ref mtp, .int x_td, .ref mfv, .int x_sz, .int x_at, .int x_fr, .int x_to, .int x_va, .int x_fk, .int x_fp, .ref mfr, .ref mwt, .int x_wt, .int x_op, .int x_jo, .ref mfg, .ref mpl, .long y_194, .ref mtm, .ref mfa, .ref mqu, .ref mmo, .ref mwy, .ref mwn, .ref mma, .ref mwi, .ref mnu, .ref mmv]))]) hD hS hA [0] rfl
      refine va_calli (va_runV (As := [.int tk]) (rest := [.int a1, .ref o0, .int y_193]) ⟨hx, hb, hml, hown, hts⟩ (kX10_draw l dC dI o0 x_th mwo mim mhi mlu mtp x_td mfv x_sz x_at x_fr x_to x_va x_fk x_fp mfr mwt x_wt x_op x_jo mfg mpl y_194 mtm mfa mqu mmo mwy mwn mma mwi mnu mmv tk (H.size) b_y_194 ⟨by omega, by omega⟩) (cwV 1 hts gX10_sold__X10_draw_V407 rfl rfl rfl hd_yX10_draw ⟨lel 1 3 rfl, lel 21 69 rfl⟩) ⟨hw_fb, rcv_X10 hK hP (q0 := 0) rfl, (hw_use hP hD hK hN [0] rfl (by decide) rfl [] rfl)⟩ rfl rfl hl.1 rfl (lv_room (Nat.le_of_ble_eq_true rfl)) dX10_sold_42 ⟨lel 0 0 rfl, lel 0 0 rfl⟩) hS (fun q _ h => hFc q h) hFc (fun r_347 u_348 t H1 locs ht hvm hw_r_347 hB hz1 hk1 hS => ?_)
      obtain ⟨o0_349, b_o0_349, hP1, hK1, hD1⟩ := hB
      rw [ht] at hP1
      have hK1 := va_K.moved hvm.symm hK1
      obtain ⟨hP, hD⟩ := va_join (wr := [(mwo, .inl (c_wo, 1875, .inl w_wo)), (mlu, .inl (c_lu, 20000, .inl w_lu))]) (w1 := [(o0, .inr (8, [.int x_th, .ref mwo, .ref mim, .ref mhi, .ref mlu, .ref mtp, .int x_td, .ref mfv, .int x_sz, .int x_at, .int x_fr, .int x_to, .int x_va, .int x_fk, .int x_fp, .ref mfr, .ref mwt, .int x_wt, .int x_op, .int x_jo, .ref mfg, .ref mpl, .long o0_349, .ref mtm, .ref mfa, .ref mqu, .ref mmo, .ref mwy, .ref mwn, .ref mma, .ref mwi, .ref mnu, .ref mmv]))]) hP hD [0] [1, 2] rfl rfl (by decide) (by decide) hk1 hFc hP1 hD1
      have hK := (hK.sub (tys' := [(c_wo, .int), (c_lu, .int)]) [0, 1] rfl).app hK1
      generalize H1 = H at hP hS ⊢
      have hP := hP.sub (ws' := [(o0, .inr (8, [.int x_th, .ref mwo, .ref mim, .ref mhi, .ref mlu, .ref mtp, .int x_td, .ref mfv, .int x_sz, .int x_at, .int x_fr, .int x_to, .int x_va, .int x_fk, .int x_fp, .ref mfr, .ref mwt, .int x_wt, .int x_op, .int x_jo, .ref mfg, .ref mpl, .long o0_349, .ref mtm, .ref mfa, .ref mqu, .ref mmo, .ref mwy, .ref mwn, .ref mma, .ref mwi, .ref mnu, .ref mmv])), (mwo, .inl (c_wo, 1875, .inl w_wo)), (mlu, .inl (c_lu, 20000, .inl w_lu))]) [2, 0, 1] rfl
      have hD := hD.sub (ws' := [(o0, .inr (8, [.int x_th, .ref mwo, .ref mim, .ref mhi, .ref mlu, .ref mtp, .int x_td, .ref mfv, .int x_sz, .int x_at, .int x_fr, .int x_to, .int x_va, .int x_fk, .int x_fp, .ref mfr, .ref mwt, .int x_wt, .int x_op, .int x_jo, .ref mfg, .ref mpl, .long o0_349, .ref mtm, .ref mfa, .ref mqu, .ref mmo, .ref mwy, .ref mwn, .ref mma, .ref mwi, .ref mnu, .ref mmv])), (mwo, .inl (c_wo, 1875, .inl w_wo)), (mlu, .inl (c_lu, 20000, .inl w_lu))]) [2, 0, 1] (by decide) rfl
      have hP : va_P (dC, dI) vwCl [(o0, .inr (8, [.int x_th, .ref mwo, .ref mim, .ref mhi, .ref mlu, .ref mtp, .int x_td, .ref mfv, .int x_sz, .int x_at, .int x_fr, .int x_to, .int x_va, .int x_fk, .int x_fp, .ref mfr, .ref mwt, .int x_wt, .int x_op, .int x_jo, .ref mfg, .ref mpl, .long o0_349, .ref mtm, .ref mfa, .ref mqu, .ref mmo, .ref mwy, .ref mwn, .ref mma, .ref mwi, .ref mnu, .ref mmv])), (mwo, .inl (c_wo, 1875, .inl w_wo)), (mlu, .inl (c_lu, 20000, .inl w_lu))] H := hP
      have hD : va_D A [(o0, .inr (8, [.int x_th, .ref mwo, .ref mim, .ref mhi, .ref mlu, .ref mtp, .int x_td, .ref mfv, .int x_sz, .int x_at, .int x_fr, .int x_to, .int x_va, .int x_fk, .int x_fp, .ref mfr, .ref mwt, .int x_wt, .int x_op, .int x_jo, .ref mfg, .ref mpl, .long o0_349, .ref mtm, .ref mfa, .ref mqu, .ref mmo, .ref mwy, .ref mwn, .ref mma, .ref mwi, .ref mnu, .ref mmv])), (mwo, .inl (c_wo, 1875, .inl w_wo)), (mlu, .inl (c_lu, 20000, .inl w_lu))] := hD
      have hK : va_K (dC, dI) vwCl [(c_wo, .int), (c_lu, .int)] s := hK
      obtain ⟨b_r_347, pr_r_347⟩ := hw_r_347
      have b_r_347 : (0 : Int) ≤ r_347.toInt ∧ r_347.toInt ≤ 19999 := b_r_347
      refine vp_callSi (W.runV (As := [.int a1, .int r_347]) (rest := [.int y_193]) ⟨hx, hb, hml, hown, hts⟩ (kX10_isLucky l dC dI o0 x_th mwo mim mhi mlu mtp x_td mfv x_sz x_at x_fr x_to x_va x_fk x_fp mfr mwt x_wt x_op x_jo mfg mpl o0_349 mtm mfa mqu mmo mwy mwn mma mwi mnu mmv c_wo c_lu w_wo w_lu ln bs tk lw li a1 r_347 b_ln b_bs b_tk b_lw b_r_347 (hw0) (hw1) (hw2) (hw3) (hw4) (hwz)) (cwV 2 hts gX10_sold__X10_isLucky_V316 rfl rfl rfl hd_yX10_isLucky ⟨lel 1 3 rfl, lel 22 69 rfl⟩) ⟨pw_fb, rcv_X10 hK hP (q0 := 0) rfl, (pw_use hP hK hN [0, 1, 2] rfl [0, 1] rfl)⟩ rfl rfl hl.1 rfl (lv_room (Nat.le_of_ble_eq_true rfl)) dX10_sold_45 ⟨lel 0 0 rfl, lel 0 0 rfl⟩) (fun r_350 h_r_350 => ?_)
      have b_r_350 := h_r_350
      have b_r_350 : (0 : Int) ≤ r_350.toInt ∧ r_350.toInt ≤ 1 := b_r_350
      refine cutW (σ := Int32) (pc2 := 56) (st2 := fun v => [.int v, .int y_193]) (cells2 := 0) (slots2 := 0) (fun v H locs ls => ((0 : Int) ≤ v.toInt ∧ v.toInt ≤ 1) ∧ va_P (dC, dI) vwCl [(o0, .inr (8, [.int x_th, .ref mwo, .ref mim, .ref mhi, .ref mlu, .ref mtp, .int x_td, .ref mfv, .int x_sz, .int x_at, .int x_fr, .int x_to, .int x_va, .int x_fk, .int x_fp, .ref mfr, .ref mwt, .int x_wt, .int x_op, .int x_jo, .ref mfg, .ref mpl, .long o0_349, .ref mtm, .ref mfa, .ref mqu, .ref mmo, .ref mwy, .ref mwn, .ref mma, .ref mwi, .ref mnu, .ref mmv])), (mwo, .inl (c_wo, 1875, .inl w_wo)), (mlu, .inl (c_lu, 20000, .inl w_lu))] H ∧ va_D A [(o0, .inr (8, [.int x_th, .ref mwo, .ref mim, .ref mhi, .ref mlu, .ref mtp, .int x_td, .ref mfv, .int x_sz, .int x_at, .int x_fr, .int x_to, .int x_va, .int x_fk, .int x_fp, .ref mfr, .ref mwt, .int x_wt, .int x_op, .int x_jo, .ref mfg, .ref mpl, .long o0_349, .ref mtm, .ref mfa, .ref mqu, .ref mmo, .ref mwy, .ref mwn, .ref mma, .ref mwi, .ref mnu, .ref mmv])), (mwo, .inl (c_wo, 1875, .inl w_wo)), (mlu, .inl (c_lu, 20000, .inl w_lu))] ∧ va_S A s.heap H locs ∧ lv_has ls 6 [(5, .int y_192), (4, .int y_193), (0, .ref o0), (1, .int a1), (2, .int a2), (3, .int a3)]) (fun v H locs ls hI => ?_) (fun hj_56_352 => ?_)
      ·
        obtain ⟨y_352, rfl⟩ : ∃ z, z = v := ⟨_, rfl⟩
        obtain ⟨b_y_352, hP, hD, hS, hl⟩ := hI
        have b_y_352 : (0 : Int) ≤ y_352.toInt ∧ y_352.toInt ≤ 1 := b_y_352
        have hP : va_P (dC, dI) vwCl [(o0, .inr (8, [.int x_th, .ref mwo, .ref mim, .ref mhi, .ref mlu, .ref mtp, .int x_td, .ref mfv, .int x_sz, .int x_at, .int x_fr, .int x_to, .int x_va, .int x_fk, .int x_fp, .ref mfr, .ref mwt, .int x_wt, .int x_op, .int x_jo, .ref mfg, .ref mpl, .long o0_349, .ref mtm, .ref mfa, .ref mqu, .ref mmo, .ref mwy, .ref mwn, .ref mma, .ref mwi, .ref mnu, .ref mmv])), (mwo, .inl (c_wo, 1875, .inl w_wo)), (mlu, .inl (c_lu, 20000, .inl w_lu))] H := hP
        have hD : va_D A [(o0, .inr (8, [.int x_th, .ref mwo, .ref mim, .ref mhi, .ref mlu, .ref mtp, .int x_td, .ref mfv, .int x_sz, .int x_at, .int x_fr, .int x_to, .int x_va, .int x_fk, .int x_fp, .ref mfr, .ref mwt, .int x_wt, .int x_op, .int x_jo, .ref mfg, .ref mpl, .long o0_349, .ref mtm, .ref mfa, .ref mqu, .ref mmo, .ref mwy, .ref mwn, .ref mma, .ref mwi, .ref mnu, .ref mmv])), (mwo, .inl (c_wo, 1875, .inl w_wo)), (mlu, .inl (c_lu, 20000, .inl w_lu))] := hD
        have hl : lv_has ls 6 [(5, .int y_192), (4, .int y_193), (0, .ref o0), (1, .int a1), (2, .int a2), (3, .int a3)] := hl
        refine lv_iadd hx hb dX10_sold_56 ?_
        refine lv_topi (fun z_353 e_z_353 => ?_)
        refine lv_istore (lv' := [(4, .int z_353), (5, .int y_192), (0, .ref o0), (1, .int a1), (2, .int a2), (3, .int a3)]) hx hb dX10_sold_57 hl (by decide) rfl (fun ls hl => ?_)
        obtain ⟨z_354, e_z_354⟩ : ∃ y : Int32, y = y_192 + 1 := ⟨_, rfl⟩
        refine lv_iinc (v := z_354) (lv' := [(5, .int z_354), (4, .int z_353), (0, .ref o0), (1, .int a1), (2, .int a2), (3, .int a3)]) hx hb dX10_sold_59 hl (k := 1) rfl (by rw [e_z_354]; rfl) (by decide) rfl (fun ls hl => ?_)
        obtain ⟨q_z_354, b_z_354⟩ := ti_add (lo := 1) (hi := 60) e_z_354 rfl (by decide : (1 : Int32).toInt = 1) b_y_192 (by decide : (1 : Int) ≤ (1 : Int32).toInt ∧ (1 : Int32).toInt ≤ 1) (by decide)
        refine lv_goto (tgt := 25) hx hb dX10_sold_62 (by decide) ?_
        exact ih_25_344 (z_354, z_353, o0_349) _ _ _ ⟨(show (0 : Int) ≤ z_354.toInt ∧ z_354.toInt ≤ 60 from (rg_w b_z_354 (by decide) (by decide))), (show (0 : Int) ≤ o0_349.toInt ∧ o0_349.toInt ≤ 2147483647 from b_o0_349), hP, hD, hS, lv_sub hl [0, 1, 2, 3, 4, 5] rfl⟩ (show (60 - z_354.toInt).toNat < (60 - y_192.toInt).toNat by omega)
      ·
        refine lv_if_eq (tgt := 55) hx hb dX10_sold_48 (by decide) (fun c_351 => ?_) (fun c_351 => ?_)
        ·
          have n_c_351 : (r_350.toInt : Int) = 0 := c_eq rfl (by decide) c_351
          have b_r_350 : (0 : Int) ≤ r_350.toInt ∧ r_350.toInt ≤ 0 := r_eq1 b_r_350 (by decide : (0 : Int) ≤ (0 : Int32).toInt ∧ (0 : Int32).toInt ≤ 0) n_c_351 (by decide)
          refine lv_iconst (v := 0) hx hb dX10_sold_55 (by decide) ?_
          exact hj_56_352 (0 : Int32) _ _ _ ⟨(show (0 : Int) ≤ (0 : Int32).toInt ∧ (0 : Int32).toInt ≤ 1 from (rg_w (by decide : (0 : Int) ≤ (0 : Int32).toInt ∧ (0 : Int32).toInt ≤ 0) (by decide) (by decide))), hP, hD, hS, lv_sub hl [0, 1, 2, 3, 4, 5] rfl⟩
        ·
          have n_c_351 : (r_350.toInt : Int) ≠ 0 := c_ne rfl (by decide) c_351
          have b_r_350 : (1 : Int) ≤ r_350.toInt ∧ r_350.toInt ≤ 1 := r_ne1 b_r_350 (by decide : (0 : Int) ≤ (0 : Int32).toInt ∧ (0 : Int32).toInt ≤ 0) n_c_351 (by decide)
          refine lv_iconst (v := 1) hx hb dX10_sold_51 (by decide) ?_
          refine lv_goto (tgt := 56) hx hb dX10_sold_52 (by decide) ?_
          exact hj_56_352 (1 : Int32) _ _ _ ⟨(show (0 : Int) ≤ (1 : Int32).toInt ∧ (1 : Int32).toInt ≤ 1 from (rg_w (by decide : (1 : Int) ≤ (1 : Int32).toInt ∧ (1 : Int32).toInt ≤ 1) (by decide) (by decide))), hP, hD, hS, lv_sub hl [0, 1, 2, 3, 4, 5] rfl⟩
  ·
    have n_c_179 : (r_178.toInt : Int) = 0 := c_eq rfl (by decide) c_179
    have b_r_178 : (0 : Int) ≤ r_178.toInt ∧ r_178.toInt ≤ 0 := r_eq1 b_r_178 (by decide : (0 : Int) ≤ (0 : Int32).toInt ∧ (0 : Int32).toInt ≤ 0) n_c_179 (by decide)
    refine lv_bipush (v := (-2)) hx hb dX10_sold_10 (by decide) ?_
    have hP9 := hP.sub (ws' := [(o0, .inr (8, [.int x_th, .ref mwo, .ref mim, .ref mhi, .ref mlu, .ref mtp, .int x_td, .ref mfv, .int x_sz, .int x_at, .int x_fr, .int x_to, .int x_va, .int x_fk, .int x_fp, .ref mfr, .ref mwt, .int x_wt, .int x_op, .int x_jo, .ref mfg, .ref mpl, .long x_dr, .ref mtm, .ref mfa, .ref mqu, .ref mmo, .ref mwy, .ref mwn, .ref mma, .ref mwi, .ref mnu, .ref mmv])), (mwo, .inl (c_wo, 1875, .inl w_wo)), (mlu, .inl (c_lu, 20000, .inl w_lu))]) [0, 1, 2] rfl
    have hD9 := hD.sub (ws' := [(o0, .inr (8, [.int x_th, .ref mwo, .ref mim, .ref mhi, .ref mlu, .ref mtp, .int x_td, .ref mfv, .int x_sz, .int x_at, .int x_fr, .int x_to, .int x_va, .int x_fk, .int x_fp, .ref mfr, .ref mwt, .int x_wt, .int x_op, .int x_jo, .ref mfg, .ref mpl, .long x_dr, .ref mtm, .ref mfa, .ref mqu, .ref mmo, .ref mwy, .ref mwn, .ref mma, .ref mwi, .ref mnu, .ref mmv])), (mwo, .inl (c_wo, 1875, .inl w_wo)), (mlu, .inl (c_lu, 20000, .inl w_lu))]) [0, 1, 2] (by decide) rfl
    have hK9 := hK.sub (tys' := [(c_wo, .int), (c_lu, .int)]) [0, 1] rfl
    exact W.iret (v := (-2)) hx hb hr (fun t ht hW => ⟨⟨(-2), (), rfl, trivial, x_dr, by rw [ht]; exact hP9, va_K.moved hW.alike hK9, hD9⟩, hS.F ht⟩) hS.2.2 dX10_sold_12
theorem dX10_first_0 : decode cX10_first 0 = .ok (.aload_n 0, 1) := by decide +kernel
theorem dX10_first_1 : decode cX10_first 1 = .ok (.iload_n 1, 1) := by decide +kernel
theorem dX10_first_2 : decode cX10_first 2 = .ok (.iload_n 2, 1) := by decide +kernel
theorem dX10_first_3 : decode cX10_first 3 = .ok (.iload_n 3, 1) := by decide +kernel
theorem dX10_first_4 : decode cX10_first 4 = .ok (.invokevirtual 410, 3) := by decide +kernel
theorem dX10_first_7 : decode cX10_first 7 = .ok (.ifCond .ne 6, 3) := by decide +kernel
theorem dX10_first_10 : decode cX10_first 10 = .ok (.bipush (-2), 2) := by decide +kernel
theorem dX10_first_12 : decode cX10_first 12 = .ok (.ireturn, 1) := by decide +kernel
theorem dX10_first_13 : decode cX10_first 13 = .ok (.aload_n 0, 1) := by decide +kernel
theorem dX10_first_14 : decode cX10_first 14 = .ok (.iload_n 2, 1) := by decide +kernel
theorem dX10_first_15 : decode cX10_first 15 = .ok (.i2l, 1) := by decide +kernel
theorem dX10_first_16 : decode cX10_first 16 = .ok (.putfield 392, 3) := by decide +kernel
theorem dX10_first_19 : decode cX10_first 19 = .ok (.iconst 1, 1) := by decide +kernel
theorem dX10_first_20 : decode cX10_first 20 = .ok (.istore 4, 2) := by decide +kernel
theorem dX10_first_22 : decode cX10_first 22 = .ok (.iload 4, 2) := by decide +kernel
theorem dX10_first_24 : decode cX10_first 24 = .ok (.iload_n 3, 1) := by decide +kernel
theorem dX10_first_25 : decode cX10_first 25 = .ok (.if_icmp .gt 30, 3) := by decide +kernel
theorem dX10_first_28 : decode cX10_first 28 = .ok (.aload_n 0, 1) := by decide +kernel
theorem dX10_first_29 : decode cX10_first 29 = .ok (.iload_n 1, 1) := by decide +kernel
theorem dX10_first_30 : decode cX10_first 30 = .ok (.aload_n 0, 1) := by decide +kernel
theorem dX10_first_31 : decode cX10_first 31 = .ok (.aload_n 0, 1) := by decide +kernel
theorem dX10_first_32 : decode cX10_first 32 = .ok (.getfield 9, 3) := by decide +kernel
theorem dX10_first_35 : decode cX10_first 35 = .ok (.iconst 2, 1) := by decide +kernel
theorem dX10_first_36 : decode cX10_first 36 = .ok (.iaload, 1) := by decide +kernel
theorem dX10_first_37 : decode cX10_first 37 = .ok (.invokevirtual 407, 3) := by decide +kernel
theorem dX10_first_40 : decode cX10_first 40 = .ok (.invokevirtual 316, 3) := by decide +kernel
theorem dX10_first_43 : decode cX10_first 43 = .ok (.ifCond .eq 6, 3) := by decide +kernel
theorem dX10_first_46 : decode cX10_first 46 = .ok (.iload 4, 2) := by decide +kernel
theorem dX10_first_48 : decode cX10_first 48 = .ok (.ireturn, 1) := by decide +kernel
theorem dX10_first_49 : decode cX10_first 49 = .ok (.iinc 4 1, 3) := by decide +kernel
theorem dX10_first_52 : decode cX10_first 52 = .ok (.goto (-30), 3) := by decide +kernel
theorem dX10_first_55 : decode cX10_first 55 = .ok (.iconst (-1), 1) := by decide +kernel
theorem dX10_first_56 : decode cX10_first 56 = .ok (.ireturn, 1) := by decide +kernel
theorem hd_yX10_first : yX10_first.cls = RX10 ∧ yX10_first.cls ≠ "java/lang/invoke/MethodHandle" ∧ yX10_first.cls ≠ "java/lang/invoke/VarHandle" ∧ (parseMethodDescriptor yX10_first.desc).map (fun d => d.parameters.length) = some 3 := by decide +kernel
def uX10_first : List Cond := List.cons (.code yX10_first cX10_first 5 (some .int)) (HAppend.hAppend ([.methodLink RX10 410 yX10_isSale, .instanceMethod yX10_isSale, .selects RX10 yX10_isSale yX10_isSale, .initialized RX10, .fieldLink RX10 392 "LuckyTicketModel" "drawn" "J", .fieldLink RX10 9 "LuckyTicketModel" "world" "[I", .methodLink RX10 407 yX10_draw, .instanceMethod yX10_draw, .selects RX10 yX10_draw yX10_draw, .methodLink RX10 316 yX10_isLucky, .instanceMethod yX10_isLucky, .selects RX10 yX10_isLucky yX10_isLucky] : List Cond) (HAppend.hAppend uX10_isSale (HAppend.hAppend uX10_draw (HAppend.hAppend uX10_isLucky wsX100))))
theorem iX10_first_X10 : ∀ w ∈ wsX100, w ∈ uX10_first := fun _ h => (List.mem_cons_of_mem _ (List.mem_append_right _ (List.mem_append_right _ (List.mem_append_right _ (List.mem_append_right _ h)))))
theorem guX10_first : GU uX10_first := gu_cons (gu_app (by decide +kernel) (gu_ap guX10_isSale (gu_ap guX10_draw (gu_ap guX10_isLucky gws_X10))))
theorem gX10_first__X10_isSale_V410 : GoodIn uX10_first (wsV RX10 410 RX10 yX10_isSale uX10_isSale) := gin_V (List.mem_of_getElem? (i := 1) rfl) (List.mem_of_getElem? (i := 2) rfl) (List.mem_of_getElem? (i := 3) rfl) (List.mem_of_getElem? (i := 4) rfl) (fun _ h => (List.mem_cons_of_mem _ (List.mem_append_right _ (List.mem_append_left _ h)))) guX10_isSale
theorem gX10_first__X10_draw_V407 : GoodIn uX10_first (wsV RX10 407 RX10 yX10_draw uX10_draw) := gin_V (List.mem_of_getElem? (i := 7) rfl) (List.mem_of_getElem? (i := 8) rfl) (List.mem_of_getElem? (i := 9) rfl) (List.mem_of_getElem? (i := 4) rfl) (fun _ h => (List.mem_cons_of_mem _ (List.mem_append_right _ (List.mem_append_right _ (List.mem_append_left _ h))))) guX10_draw
theorem gX10_first__X10_isLucky_V316 : GoodIn uX10_first (wsV RX10 316 RX10 yX10_isLucky uX10_isLucky) := gin_V (List.mem_of_getElem? (i := 10) rfl) (List.mem_of_getElem? (i := 11) rfl) (List.mem_of_getElem? (i := 12) rfl) (List.mem_of_getElem? (i := 4) rfl) (fun _ h => (List.mem_cons_of_mem _ (List.mem_append_right _ (List.mem_append_right _ (List.mem_append_right _ (List.mem_append_left _ h)))))) guX10_isLucky
set_option maxHeartbeats 4000000 in
set_option maxRecDepth 100000 in
theorem kX10_first (l : Launch) (dC : Nat → ClassId) (dI : Nat → Nat → Nat) (o0 : Nat) (x_th : Int32) (mwo : Nat) (mim : Nat) (mhi : Nat) (mlu : Nat) (mtp : Nat) (x_td : Int32) (mfv : Nat) (x_sz : Int32) (x_at : Int32) (x_fr : Int32) (x_to : Int32) (x_va : Int32) (x_fk : Int32) (x_fp : Int32) (mfr : Nat) (mwt : Nat) (x_wt : Int32) (x_op : Int32) (x_jo : Int32) (mfg : Nat) (mpl : Nat) (x_dr : Int64) (mtm : Nat) (mfa : Nat) (mqu : Nat) (mmo : Nat) (mwy : Nat) (mwn : Nat) (mma : Nat) (mwi : Nat) (mnu : Nat) (mmv : Nat) (c_wo : ClassId) (c_lu : ClassId) (w_wo : Nat → Int32) (w_lu : Nat → Int32) (ln : Int32) (bs : Int32) (tk : Int32) (lw : Int32) (li : Int32) (a1 : Int32) (a2 : Int32) (a3 : Int32) (sz : Nat) (b_ln : (0 : Int) ≤ ln.toInt ∧ ln.toInt ≤ 12) (b_bs : (0 : Int) ≤ bs.toInt ∧ bs.toInt ≤ 16) (b_tk : (0 : Int) ≤ tk.toInt ∧ tk.toInt ≤ 20000) (b_lw : (0 : Int) ≤ lw.toInt ∧ lw.toInt ≤ 9) (hw0 : w_wo 0 = ln) (hw1 : w_wo 1 = bs) (hw2 : w_wo 2 = tk) (hw3 : w_wo 3 = lw) (hw4 : w_wo 4 = li) (hwz : (ln.toInt = 0 ∧ bs.toInt = 0 ∧ tk.toInt = 0 ∧ lw.toInt = 0) ∨ (1 ≤ ln.toInt ∧ 2 ≤ bs.toInt ∧ 1 ≤ tk.toInt)) : Met l yX10_first uX10_first ({ frames := 3, cells := 0, slots := 0, locals := 69 }) (va_Pc [.ref o0, .int a1, .int a2, .int a3] (hw (dC, dI) vwCl [(o0, .inr (8, [.int x_th, .ref mwo, .ref mim, .ref mhi, .ref mlu, .ref mtp, .int x_td, .ref mfv, .int x_sz, .int x_at, .int x_fr, .int x_to, .int x_va, .int x_fk, .int x_fp, .ref mfr, .ref mwt, .int x_wt, .int x_op, .int x_jo, .ref mfg, .ref mpl, .long x_dr, .ref mtm, .ref mfa, .ref mqu, .ref mmo, .ref mwy, .ref mwn, .ref mma, .ref mwi, .ref mnu, .ref mmv])), (mwo, .inl (c_wo, 1875, .inl w_wo)), (mlu, .inl (c_lu, 20000, .inl w_lu))] [(c_wo, .int), (c_lu, .int)] sz)) (va_Qi (fun (r : Int32) (_ : Unit) => ((-2 : Int) ≤ r.toInt ∧ r.toInt ≤ 60)) (fun (_ : Unit) t => ∃ (o0_ : Int64), va_P (dC, dI) vwCl [(o0, .inr (8, [.int x_th, .ref mwo, .ref mim, .ref mhi, .ref mlu, .ref mtp, .int x_td, .ref mfv, .int x_sz, .int x_at, .int x_fr, .int x_to, .int x_va, .int x_fk, .int x_fp, .ref mfr, .ref mwt, .int x_wt, .int x_op, .int x_jo, .ref mfg, .ref mpl, .long o0_, .ref mtm, .ref mfa, .ref mqu, .ref mmo, .ref mwy, .ref mwn, .ref mma, .ref mwi, .ref mnu, .ref mmv])), (mwo, .inl (c_wo, 1875, .inl w_wo)), (mlu, .inl (c_lu, 20000, .inl w_lu))] t.heap ∧ va_K (dC, dI) vwCl [(c_wo, .int), (c_lu, .int)] t ∧ va_D (va_A [(o0, .inr (8, [.int x_th, .ref mwo, .ref mim, .ref mhi, .ref mlu, .ref mtp, .int x_td, .ref mfv, .int x_sz, .int x_at, .int x_fr, .int x_to, .int x_va, .int x_fk, .int x_fp, .ref mfr, .ref mwt, .int x_wt, .int x_op, .int x_jo, .ref mfg, .ref mpl, .long x_dr, .ref mtm, .ref mfa, .ref mqu, .ref mmo, .ref mwy, .ref mwn, .ref mma, .ref mwi, .ref mnu, .ref mmv])), (mwo, .inl (c_wo, 1875, .inl w_wo)), (mlu, .inl (c_lu, 20000, .inl w_lu))] sz) [(o0, .inr (8, [.int x_th, .ref mwo, .ref mim, .ref mhi, .ref mlu, .ref mtp, .int x_td, .ref mfv, .int x_sz, .int x_at, .int x_fr, .int x_to, .int x_va, .int x_fk, .int x_fp, .ref mfr, .ref mwt, .int x_wt, .int x_op, .int x_jo, .ref mfg, .ref mpl, .long o0_, .ref mtm, .ref mfa, .ref mqu, .ref mmo, .ref mwy, .ref mwn, .ref mma, .ref mwi, .ref mnu, .ref mmv])), (mwo, .inl (c_wo, 1875, .inl w_wo)), (mlu, .inl (c_lu, 20000, .inl w_lu))]) (va_A [(o0, .inr (8, [.int x_th, .ref mwo, .ref mim, .ref mhi, .ref mlu, .ref mtp, .int x_td, .ref mfv, .int x_sz, .int x_at, .int x_fr, .int x_to, .int x_va, .int x_fk, .int x_fp, .ref mfr, .ref mwt, .int x_wt, .int x_op, .int x_jo, .ref mfg, .ref mpl, .long x_dr, .ref mtm, .ref mfa, .ref mqu, .ref mmo, .ref mwy, .ref mwn, .ref mma, .ref mwi, .ref mnu, .ref mmv])), (mwo, .inl (c_wo, 1875, .inl w_wo)), (mlu, .inl (c_lu, 20000, .inl w_lu))] sz)) 0 0 (va_A [(o0, .inr (8, [.int x_th, .ref mwo, .ref mim, .ref mhi, .ref mlu, .ref mtp, .int x_td, .ref mfv, .int x_sz, .int x_at, .int x_fr, .int x_to, .int x_va, .int x_fk, .int x_fp, .ref mfr, .ref mwt, .int x_wt, .int x_op, .int x_jo, .ref mfg, .ref mpl, .long x_dr, .ref mtm, .ref mfa, .ref mqu, .ref mmo, .ref mwy, .ref mwn, .ref mma, .ref mwi, .ref mnu, .ref mmv])), (mwo, .inl (c_wo, 1875, .inl w_wo)), (mlu, .inl (c_lu, 20000, .inl w_lu))] sz) := by
  refine Met.ofW (cc := cX10_first) (maxL := 5) (ret := (some .int)) pn_X10 rfl ?_
  intro p e s m args below meth c s₁ B hml hv
  obtain ⟨rfl, hsz, hP, hK, hD0, hN⟩ := hv
  have hx := B.exec
  have hb := B.bytes
  have hr := B.returns
  have hts := atoms_spec (ws := uX10_first) B.pre
  have hown : s.vm.findClass RX10 = some m.cls := hown_of B.named rfl
  have hlocks := B.notSynchronized
  subst hsz
  have hD := hD0.self (sz := s.heap.size)
  generalize hAe : va_A [(o0, .inr (8, [.int x_th, .ref mwo, .ref mim, .ref mhi, .ref mlu, .ref mtp, .int x_td, .ref mfv, .int x_sz, .int x_at, .int x_fr, .int x_to, .int x_va, .int x_fk, .int x_fp, .ref mfr, .ref mwt, .int x_wt, .int x_op, .int x_jo, .ref mfg, .ref mpl, .long x_dr, .ref mtm, .ref mfa, .ref mqu, .ref mmo, .ref mwy, .ref mwn, .ref mma, .ref mwi, .ref mnu, .ref mmv])), (mwo, .inl (c_wo, 1875, .inl w_wo)), (mlu, .inl (c_lu, 20000, .inl w_lu))] s.heap.size = A at hD ⊢
  have hA : ∀ q : Nat, s.heap.size ≤ q → A q := fun q h => by rw [← hAe]; exact Or.inr h
  have hS : va_S A s.heap s.heap [] := va_S.rf
  have hP : va_P (dC, dI) vwCl [(o0, .inr (8, [.int x_th, .ref mwo, .ref mim, .ref mhi, .ref mlu, .ref mtp, .int x_td, .ref mfv, .int x_sz, .int x_at, .int x_fr, .int x_to, .int x_va, .int x_fk, .int x_fp, .ref mfr, .ref mwt, .int x_wt, .int x_op, .int x_jo, .ref mfg, .ref mpl, .long x_dr, .ref mtm, .ref mfa, .ref mqu, .ref mmo, .ref mwy, .ref mwn, .ref mma, .ref mwi, .ref mnu, .ref mmv])), (mwo, .inl (c_wo, 1875, .inl w_wo)), (mlu, .inl (c_lu, 20000, .inl w_lu))] s.heap := hP
  have hl := lv_entry ([.ref o0, .int a1, .int a2, .int a3]) (n := 5) (Nat.le_of_ble_eq_true rfl)
  rw [lg_entry_eq]
  generalize (lg_sl ([.ref o0, .int a1, .int a2, .int a3]) ++ List.replicate (5 - (lg_sl ([.ref o0, .int a1, .int a2, .int a3])).length) Slot.unset).toArray = ls at hl ⊢
  have hl : lv_has ls 5 [(0, .ref o0), (1, .int a1), (2, .int a2), (3, .int a3)] := hl
  refine lv_aload_n hx hb dX10_first_0 rfl (lv_at hl 0 rfl) ?_
  refine lv_iload_n hx hb dX10_first_1 rfl (lv_at hl 1 rfl) ?_
  refine lv_iload_n hx hb dX10_first_2 rfl (lv_at hl 2 rfl) ?_
  refine lv_iload_n hx hb dX10_first_3 rfl (lv_at hl 3 rfl) ?_
  refine vp_callSi (W.runV (As := [.int a1, .int a2, .int a3]) (rest := []) ⟨hx, hb, hml, hown, hts⟩ (kX10_isSale l dC dI o0 x_th mwo mim mhi mlu mtp x_td mfv x_sz x_at x_fr x_to x_va x_fk x_fp mfr mwt x_wt x_op x_jo mfg mpl x_dr mtm mfa mqu mmo mwy mwn mma mwi mnu mmv c_wo w_wo ln bs tk lw li a1 a2 a3 b_ln b_bs b_tk b_lw (hw0) (hw1) (hw2) (hw3) (hw4) (hwz)) (cwV 3 hts gX10_first__X10_isSale_V410 rfl rfl rfl hd_yX10_isSale ⟨lel 3 3 rfl, lel 69 69 rfl⟩) ⟨pw_fb, rcv_X10 hK hP (q0 := 0) rfl, (pw_use hP hK hN [0, 1] rfl [0] rfl)⟩ rfl rfl hl.1 rfl (lv_room (Nat.le_of_ble_eq_true rfl)) dX10_first_4 ⟨lel 0 0 rfl, lel 0 0 rfl⟩) (fun r_79 h_r_79 => ?_)
  obtain ⟨b_r_79, nz_r_79⟩ := h_r_79
  have b_r_79 : (0 : Int) ≤ r_79.toInt ∧ r_79.toInt ≤ 1 := b_r_79
  refine lv_if_ne (tgt := 13) hx hb dX10_first_7 (by decide) (fun c_80 => ?_) (fun c_80 => ?_)
  ·
    have n_c_80 : (r_79.toInt : Int) ≠ 0 := c_ne rfl (by decide) c_80
    have b_r_79 : (1 : Int) ≤ r_79.toInt ∧ r_79.toInt ≤ 1 := r_ne1 b_r_79 (by decide : (0 : Int) ≤ (0 : Int32).toInt ∧ (0 : Int32).toInt ≤ 0) n_c_80 (by decide)
    obtain ⟨b_a1, b_a2, b_a3, g_81⟩ := nz_r_79 c_80
    refine lv_aload_n hx hb dX10_first_13 rfl (lv_at hl 0 rfl) ?_
    refine lv_iload_n hx hb dX10_first_14 rfl (lv_at hl 2 rfl) ?_
    obtain ⟨z_82, e_z_82⟩ : ∃ y : Int64, y = a2.toInt64 := ⟨_, rfl⟩
    refine lv_i2l (v := z_82) hx hb dX10_first_15 e_z_82.symm ?_
    obtain ⟨q_z_82, b_z_82⟩ := ti_i2l e_z_82 b_a2
    refine va_put (D := (dC, dI)) (ci := 8) (v := .long z_82) (ty := .long) (C := RX10) (T := TX10) (N := 33) hx hb hts iX10_first_X10 tyX10 tyX10_ok nmX10 hown hK hP hD hS 0 rfl rfl 22 (by decide) (hts (.fieldLink RX10 392 "LuckyTicketModel" "drawn" "J") (List.mem_of_getElem? (i := 5) rfl)) (fun _ h9 => h9) rfl (by decide +kernel) rfl rfl (Nat.le_of_ble_eq_true rfl) dX10_first_16 (fun H locs hP hD hS => ?_)
    have hP : va_P (dC, dI) vwCl [(o0, .inr (8, [.int x_th, .ref mwo, .ref mim, .ref mhi, .ref mlu, .ref mtp, .int x_td, .ref mfv, .int x_sz, .int x_at, .int x_fr, .int x_to, .int x_va, .int x_fk, .int x_fp, .ref mfr, .ref mwt, .int x_wt, .int x_op, .int x_jo, .ref mfg, .ref mpl, .long z_82, .ref mtm, .ref mfa, .ref mqu, .ref mmo, .ref mwy, .ref mwn, .ref mma, .ref mwi, .ref mnu, .ref mmv])), (mwo, .inl (c_wo, 1875, .inl w_wo)), (mlu, .inl (c_lu, 20000, .inl w_lu))] H := hP
    have hD : va_D A [(o0, .inr (8, [.int x_th, .ref mwo, .ref mim, .ref mhi, .ref mlu, .ref mtp, .int x_td, .ref mfv, .int x_sz, .int x_at, .int x_fr, .int x_to, .int x_va, .int x_fk, .int x_fp, .ref mfr, .ref mwt, .int x_wt, .int x_op, .int x_jo, .ref mfg, .ref mpl, .long z_82, .ref mtm, .ref mfa, .ref mqu, .ref mmo, .ref mwy, .ref mwn, .ref mma, .ref mwi, .ref mnu, .ref mmv])), (mwo, .inl (c_wo, 1875, .inl w_wo)), (mlu, .inl (c_lu, 20000, .inl w_lu))] := hD
    refine lv_iconst (v := 1) hx hb dX10_first_19 (by decide) ?_
    refine lv_istore (lv' := [(4, .int 1), (0, .ref o0), (1, .int a1), (2, .int a2), (3, .int a3)]) hx hb dX10_first_20 hl (by decide) rfl (fun ls hl => ?_)
    refine loopW (σ := Int32 × Int64) (fun v => (61 - v.1.toInt).toNat) (fun v H locs ls => ((1 : Int) ≤ v.1.toInt ∧ v.1.toInt ≤ 61) ∧ ((0 : Int) ≤ v.2.toInt ∧ v.2.toInt ≤ 2147483647) ∧ va_P (dC, dI) vwCl [(o0, .inr (8, [.int x_th, .ref mwo, .ref mim, .ref mhi, .ref mlu, .ref mtp, .int x_td, .ref mfv, .int x_sz, .int x_at, .int x_fr, .int x_to, .int x_va, .int x_fk, .int x_fp, .ref mfr, .ref mwt, .int x_wt, .int x_op, .int x_jo, .ref mfg, .ref mpl, .long v.2, .ref mtm, .ref mfa, .ref mqu, .ref mmo, .ref mwy, .ref mwn, .ref mma, .ref mwi, .ref mnu, .ref mmv])), (mwo, .inl (c_wo, 1875, .inl w_wo)), (mlu, .inl (c_lu, 20000, .inl w_lu))] H ∧ va_D A [(o0, .inr (8, [.int x_th, .ref mwo, .ref mim, .ref mhi, .ref mlu, .ref mtp, .int x_td, .ref mfv, .int x_sz, .int x_at, .int x_fr, .int x_to, .int x_va, .int x_fk, .int x_fp, .ref mfr, .ref mwt, .int x_wt, .int x_op, .int x_jo, .ref mfg, .ref mpl, .long v.2, .ref mtm, .ref mfa, .ref mqu, .ref mmo, .ref mwy, .ref mwn, .ref mma, .ref mwi, .ref mnu, .ref mmv])), (mwo, .inl (c_wo, 1875, .inl w_wo)), (mlu, .inl (c_lu, 20000, .inl w_lu))] ∧ va_S A s.heap H locs ∧ lv_has ls 5 [(4, .int v.1), (0, .ref o0), (1, .int a1), (2, .int a2), (3, .int a3)]) (fun v H locs ls hI ih_22_148 => ?_) ((1 : Int32), z_82) ⟨(show (1 : Int) ≤ (1 : Int32).toInt ∧ (1 : Int32).toInt ≤ 61 from (rg_w (by decide : (1 : Int) ≤ (1 : Int32).toInt ∧ (1 : Int32).toInt ≤ 1) (by decide) (by decide))), (show (0 : Int) ≤ z_82.toInt ∧ z_82.toInt ≤ 2147483647 from (rg_w b_z_82 (by decide) (by decide))), hP, hD, hS, lv_sub hl [0, 1, 2, 3, 4] rfl⟩
    obtain ⟨y_91, y_92⟩ := v
    obtain ⟨b_y_91, b_y_92, hP, hD, hS, hl⟩ := hI
    have b_y_91 : (1 : Int) ≤ y_91.toInt ∧ y_91.toInt ≤ 61 := b_y_91
    have b_y_92 : (0 : Int) ≤ y_92.toInt ∧ y_92.toInt ≤ 2147483647 := b_y_92
    have hP : va_P (dC, dI) vwCl [(o0, .inr (8, [.int x_th, .ref mwo, .ref mim, .ref mhi, .ref mlu, .ref mtp, .int x_td, .ref mfv, .int x_sz, .int x_at, .int x_fr, .int x_to, .int x_va, .int x_fk, .int x_fp, .ref mfr, .ref mwt, .int x_wt, .int x_op, .int x_jo, .ref mfg, .ref mpl, .long y_92, .ref mtm, .ref mfa, .ref mqu, .ref mmo, .ref mwy, .ref mwn, .ref mma, .ref mwi, .ref mnu, .ref mmv])), (mwo, .inl (c_wo, 1875, .inl w_wo)), (mlu, .inl (c_lu, 20000, .inl w_lu))] H := hP
    have hD : va_D A [(o0, .inr (8, [.int x_th, .ref mwo, .ref mim, .ref mhi, .ref mlu, .ref mtp, .int x_td, .ref mfv, .int x_sz, .int x_at, .int x_fr, .int x_to, .int x_va, .int x_fk, .int x_fp, .ref mfr, .ref mwt, .int x_wt, .int x_op, .int x_jo, .ref mfg, .ref mpl, .long y_92, .ref mtm, .ref mfa, .ref mqu, .ref mmo, .ref mwy, .ref mwn, .ref mma, .ref mwi, .ref mnu, .ref mmv])), (mwo, .inl (c_wo, 1875, .inl w_wo)), (mlu, .inl (c_lu, 20000, .inl w_lu))] := hD
    have hl : lv_has ls 5 [(4, .int y_91), (0, .ref o0), (1, .int a1), (2, .int a2), (3, .int a3)] := hl
    refine lv_iload hx hb dX10_first_22 (lv_at hl 0 rfl) ?_
    refine lv_iload_n hx hb dX10_first_24 rfl (lv_at hl 4 rfl) ?_
    refine lv_icmp_gt (tgt := 55) hx hb dX10_first_25 (by decide) (fun c_149 => ?_) (fun c_149 => ?_)
    ·
      have n_c_149 : (a3.toInt : Int) < y_91.toInt := c_gt rfl rfl c_149
      have b_y_91 : (2 : Int) ≤ y_91.toInt ∧ y_91.toInt ≤ 61 := r_lt2 b_a3 b_y_91 n_c_149 (by decide)
      refine lv_iconst (v := (-1)) hx hb dX10_first_55 (by decide) ?_
      have hP9 := hP.sub (ws' := [(o0, .inr (8, [.int x_th, .ref mwo, .ref mim, .ref mhi, .ref mlu, .ref mtp, .int x_td, .ref mfv, .int x_sz, .int x_at, .int x_fr, .int x_to, .int x_va, .int x_fk, .int x_fp, .ref mfr, .ref mwt, .int x_wt, .int x_op, .int x_jo, .ref mfg, .ref mpl, .long y_92, .ref mtm, .ref mfa, .ref mqu, .ref mmo, .ref mwy, .ref mwn, .ref mma, .ref mwi, .ref mnu, .ref mmv])), (mwo, .inl (c_wo, 1875, .inl w_wo)), (mlu, .inl (c_lu, 20000, .inl w_lu))]) [0, 1, 2] rfl
      have hD9 := hD.sub (ws' := [(o0, .inr (8, [.int x_th, .ref mwo, .ref mim, .ref mhi, .ref mlu, .ref mtp, .int x_td, .ref mfv, .int x_sz, .int x_at, .int x_fr, .int x_to, .int x_va, .int x_fk, .int x_fp, .ref mfr, .ref mwt, .int x_wt, .int x_op, .int x_jo, .ref mfg, .ref mpl, .long y_92, .ref mtm, .ref mfa, .ref mqu, .ref mmo, .ref mwy, .ref mwn, .ref mma, .ref mwi, .ref mnu, .ref mmv])), (mwo, .inl (c_wo, 1875, .inl w_wo)), (mlu, .inl (c_lu, 20000, .inl w_lu))]) [0, 1, 2] (by decide) rfl
      have hK9 := hK.sub (tys' := [(c_wo, .int), (c_lu, .int)]) [0, 1] rfl
      exact W.iret (v := (-1)) hx hb hr (fun t ht hW => ⟨⟨(-1), (), rfl, (rg_w (by decide : (-1 : Int) ≤ ((-1) : Int32).toInt ∧ ((-1) : Int32).toInt ≤ -1) (by decide) (by decide)), y_92, by rw [ht]; exact hP9, va_K.moved hW.alike hK9, hD9⟩, hS.F ht⟩) hS.2.2 dX10_first_56
    ·
      have n_c_149 : (y_91.toInt : Int) ≤ a3.toInt := c_ngt rfl rfl c_149
      have b_y_91 : (1 : Int) ≤ y_91.toInt ∧ y_91.toInt ≤ 60 := r_le1 b_y_91 b_a3 n_c_149 (by decide)
      refine lv_aload_n hx hb dX10_first_28 rfl (lv_at hl 1 rfl) ?_
      refine lv_iload_n hx hb dX10_first_29 rfl (lv_at hl 2 rfl) ?_
      refine lv_aload_n hx hb dX10_first_30 rfl (lv_at hl 1 rfl) ?_
      refine lv_aload_n hx hb dX10_first_31 rfl (lv_at hl 1 rfl) ?_
      refine va_get (D := (dC, dI)) (ci := 8) (v := .ref mwo) (C := RX10) (T := TX10) (N := 33) hx hb hts iX10_first_X10 hown hK hP 0 rfl rfl 1 (by decide) (hts (.fieldLink RX10 9 "LuckyTicketModel" "world" "[I") (List.mem_of_getElem? (i := 6) rfl)) (fun _ h9 => h9) rfl dX10_first_32 ?_
      refine lv_iconst (v := 2) hx hb dX10_first_35 (by decide) ?_
      refine va_iald hx hb hK hP 1 0 rfl rfl (vp_in_b (by decide : (2 : Int) ≤ (2 : Int32).toInt ∧ (2 : Int32).toInt ≤ 2) (by decide) (by decide)) dX10_first_36 ?_
      refine lv_topi (fun z_150 e_z_150 => ?_)
      obtain rfl : tk = z_150 := (e_z_150.trans hw2).symm
      have hFc := va_free (wc := [(o0, .inr (8, [.int x_th, .ref mwo, .ref mim, .ref mhi, .ref mlu, .ref mtp, .int x_td, .ref mfv, .int x_sz, .int x_at, .int x_fr, .int x_to, .int x_va, .int x_fk, .int x_fp, .ref mfr, .ref mwt, .int x_wt, .int x_op, .int x_jo, .ref mfg, .ref mpl, .long y_92, .ref mtm, .ref mfa, .ref mqu, .ref mmo, .ref mwy, .ref mwn, .ref mma, .ref mwi, .ref mnu, .ref mmv]))]) hD hS hA [0] rfl
      refine va_calli (va_runV (As := [.int tk]) (rest := [.int a1, .ref o0]) ⟨hx, hb, hml, hown, hts⟩ (kX10_draw l dC dI o0 x_th mwo mim mhi mlu mtp x_td mfv x_sz x_at x_fr x_to x_va x_fk x_fp mfr mwt x_wt x_op x_jo mfg mpl y_92 mtm mfa mqu mmo mwy mwn mma mwi mnu mmv tk (H.size) b_y_92 ⟨by omega, by omega⟩) (cwV 1 hts gX10_first__X10_draw_V407 rfl rfl rfl hd_yX10_draw ⟨lel 1 3 rfl, lel 21 69 rfl⟩) ⟨hw_fb, rcv_X10 hK hP (q0 := 0) rfl, (hw_use hP hD hK hN [0] rfl (by decide) rfl [] rfl)⟩ rfl rfl hl.1 rfl (lv_room (Nat.le_of_ble_eq_true rfl)) dX10_first_37 ⟨lel 0 0 rfl, lel 0 0 rfl⟩) hS (fun q _ h => hFc q h) hFc (fun r_151 u_152 t H1 locs ht hvm hw_r_151 hB hz1 hk1 hS => ?_)
      obtain ⟨o0_153, b_o0_153, hP1, hK1, hD1⟩ := hB
      rw [ht] at hP1
      have hK1 := va_K.moved hvm.symm hK1
      obtain ⟨hP, hD⟩ := va_join (wr := [(mwo, .inl (c_wo, 1875, .inl w_wo)), (mlu, .inl (c_lu, 20000, .inl w_lu))]) (w1 := [(o0, .inr (8, [.int x_th, .ref mwo, .ref mim, .ref mhi, .ref mlu, .ref mtp, .int x_td, .ref mfv, .int x_sz, .int x_at, .int x_fr, .int x_to, .int x_va, .int x_fk, .int x_fp, .ref mfr, .ref mwt, .int x_wt, .int x_op, .int x_jo, .ref mfg, .ref mpl, .long o0_153, .ref mtm, .ref mfa, .ref mqu, .ref mmo, .ref mwy, .ref mwn, .ref mma, .ref mwi, .ref mnu, .ref mmv]))]) hP hD [0] [1, 2] rfl rfl (by decide) (by decide) hk1 hFc hP1 hD1
      have hK := (hK.sub (tys' := [(c_wo, .int), (c_lu, .int)]) [0, 1] rfl).app hK1
      generalize H1 = H at hP hS ⊢
      have hP := hP.sub (ws' := [(o0, .inr (8, [.int x_th, .ref mwo, .ref mim, .ref mhi, .ref mlu, .ref mtp, .int x_td, .ref mfv, .int x_sz, .int x_at, .int x_fr, .int x_to, .int x_va, .int x_fk, .int x_fp, .ref mfr, .ref mwt, .int x_wt, .int x_op, .int x_jo, .ref mfg, .ref mpl, .long o0_153, .ref mtm, .ref mfa, .ref mqu, .ref mmo, .ref mwy, .ref mwn, .ref mma, .ref mwi, .ref mnu, .ref mmv])), (mwo, .inl (c_wo, 1875, .inl w_wo)), (mlu, .inl (c_lu, 20000, .inl w_lu))]) [2, 0, 1] rfl
      have hD := hD.sub (ws' := [(o0, .inr (8, [.int x_th, .ref mwo, .ref mim, .ref mhi, .ref mlu, .ref mtp, .int x_td, .ref mfv, .int x_sz, .int x_at, .int x_fr, .int x_to, .int x_va, .int x_fk, .int x_fp, .ref mfr, .ref mwt, .int x_wt, .int x_op, .int x_jo, .ref mfg, .ref mpl, .long o0_153, .ref mtm, .ref mfa, .ref mqu, .ref mmo, .ref mwy, .ref mwn, .ref mma, .ref mwi, .ref mnu, .ref mmv])), (mwo, .inl (c_wo, 1875, .inl w_wo)), (mlu, .inl (c_lu, 20000, .inl w_lu))]) [2, 0, 1] (by decide) rfl
      have hP : va_P (dC, dI) vwCl [(o0, .inr (8, [.int x_th, .ref mwo, .ref mim, .ref mhi, .ref mlu, .ref mtp, .int x_td, .ref mfv, .int x_sz, .int x_at, .int x_fr, .int x_to, .int x_va, .int x_fk, .int x_fp, .ref mfr, .ref mwt, .int x_wt, .int x_op, .int x_jo, .ref mfg, .ref mpl, .long o0_153, .ref mtm, .ref mfa, .ref mqu, .ref mmo, .ref mwy, .ref mwn, .ref mma, .ref mwi, .ref mnu, .ref mmv])), (mwo, .inl (c_wo, 1875, .inl w_wo)), (mlu, .inl (c_lu, 20000, .inl w_lu))] H := hP
      have hD : va_D A [(o0, .inr (8, [.int x_th, .ref mwo, .ref mim, .ref mhi, .ref mlu, .ref mtp, .int x_td, .ref mfv, .int x_sz, .int x_at, .int x_fr, .int x_to, .int x_va, .int x_fk, .int x_fp, .ref mfr, .ref mwt, .int x_wt, .int x_op, .int x_jo, .ref mfg, .ref mpl, .long o0_153, .ref mtm, .ref mfa, .ref mqu, .ref mmo, .ref mwy, .ref mwn, .ref mma, .ref mwi, .ref mnu, .ref mmv])), (mwo, .inl (c_wo, 1875, .inl w_wo)), (mlu, .inl (c_lu, 20000, .inl w_lu))] := hD
      have hK : va_K (dC, dI) vwCl [(c_wo, .int), (c_lu, .int)] s := hK
      obtain ⟨b_r_151, pr_r_151⟩ := hw_r_151
      have b_r_151 : (0 : Int) ≤ r_151.toInt ∧ r_151.toInt ≤ 19999 := b_r_151
      refine vp_callSi (W.runV (As := [.int a1, .int r_151]) (rest := []) ⟨hx, hb, hml, hown, hts⟩ (kX10_isLucky l dC dI o0 x_th mwo mim mhi mlu mtp x_td mfv x_sz x_at x_fr x_to x_va x_fk x_fp mfr mwt x_wt x_op x_jo mfg mpl o0_153 mtm mfa mqu mmo mwy mwn mma mwi mnu mmv c_wo c_lu w_wo w_lu ln bs tk lw li a1 r_151 b_ln b_bs b_tk b_lw b_r_151 (hw0) (hw1) (hw2) (hw3) (hw4) (hwz)) (cwV 2 hts gX10_first__X10_isLucky_V316 rfl rfl rfl hd_yX10_isLucky ⟨lel 1 3 rfl, lel 22 69 rfl⟩) ⟨pw_fb, rcv_X10 hK hP (q0 := 0) rfl, (pw_use hP hK hN [0, 1, 2] rfl [0, 1] rfl)⟩ rfl rfl hl.1 rfl (lv_room (Nat.le_of_ble_eq_true rfl)) dX10_first_40 ⟨lel 0 0 rfl, lel 0 0 rfl⟩) (fun r_154 h_r_154 => ?_)
      have b_r_154 := h_r_154
      have b_r_154 : (0 : Int) ≤ r_154.toInt ∧ r_154.toInt ≤ 1 := b_r_154
      refine lv_if_eq (tgt := 49) hx hb dX10_first_43 (by decide) (fun c_155 => ?_) (fun c_155 => ?_)
      ·
        have n_c_155 : (r_154.toInt : Int) = 0 := c_eq rfl (by decide) c_155
        have b_r_154 : (0 : Int) ≤ r_154.toInt ∧ r_154.toInt ≤ 0 := r_eq1 b_r_154 (by decide : (0 : Int) ≤ (0 : Int32).toInt ∧ (0 : Int32).toInt ≤ 0) n_c_155 (by decide)
        obtain ⟨z_156, e_z_156⟩ : ∃ y : Int32, y = y_91 + 1 := ⟨_, rfl⟩
        refine lv_iinc (v := z_156) (lv' := [(4, .int z_156), (0, .ref o0), (1, .int a1), (2, .int a2), (3, .int a3)]) hx hb dX10_first_49 hl (k := 0) rfl (by rw [e_z_156]; rfl) (by decide) rfl (fun ls hl => ?_)
        obtain ⟨q_z_156, b_z_156⟩ := ti_add (lo := 2) (hi := 61) e_z_156 rfl (by decide : (1 : Int32).toInt = 1) b_y_91 (by decide : (1 : Int) ≤ (1 : Int32).toInt ∧ (1 : Int32).toInt ≤ 1) (by decide)
        refine lv_goto (tgt := 22) hx hb dX10_first_52 (by decide) ?_
        exact ih_22_148 (z_156, o0_153) _ _ _ ⟨(show (1 : Int) ≤ z_156.toInt ∧ z_156.toInt ≤ 61 from (rg_w b_z_156 (by decide) (by decide))), (show (0 : Int) ≤ o0_153.toInt ∧ o0_153.toInt ≤ 2147483647 from b_o0_153), hP, hD, hS, lv_sub hl [0, 1, 2, 3, 4] rfl⟩ (show (61 - z_156.toInt).toNat < (61 - y_91.toInt).toNat by omega)
      ·
        have n_c_155 : (r_154.toInt : Int) ≠ 0 := c_ne rfl (by decide) c_155
        have b_r_154 : (1 : Int) ≤ r_154.toInt ∧ r_154.toInt ≤ 1 := r_ne1 b_r_154 (by decide : (0 : Int) ≤ (0 : Int32).toInt ∧ (0 : Int32).toInt ≤ 0) n_c_155 (by decide)
        refine lv_iload hx hb dX10_first_46 (lv_at hl 0 rfl) ?_
        have hP9 := hP.sub (ws' := [(o0, .inr (8, [.int x_th, .ref mwo, .ref mim, .ref mhi, .ref mlu, .ref mtp, .int x_td, .ref mfv, .int x_sz, .int x_at, .int x_fr, .int x_to, .int x_va, .int x_fk, .int x_fp, .ref mfr, .ref mwt, .int x_wt, .int x_op, .int x_jo, .ref mfg, .ref mpl, .long o0_153, .ref mtm, .ref mfa, .ref mqu, .ref mmo, .ref mwy, .ref mwn, .ref mma, .ref mwi, .ref mnu, .ref mmv])), (mwo, .inl (c_wo, 1875, .inl w_wo)), (mlu, .inl (c_lu, 20000, .inl w_lu))]) [0, 1, 2] rfl
        have hD9 := hD.sub (ws' := [(o0, .inr (8, [.int x_th, .ref mwo, .ref mim, .ref mhi, .ref mlu, .ref mtp, .int x_td, .ref mfv, .int x_sz, .int x_at, .int x_fr, .int x_to, .int x_va, .int x_fk, .int x_fp, .ref mfr, .ref mwt, .int x_wt, .int x_op, .int x_jo, .ref mfg, .ref mpl, .long o0_153, .ref mtm, .ref mfa, .ref mqu, .ref mmo, .ref mwy, .ref mwn, .ref mma, .ref mwi, .ref mnu, .ref mmv])), (mwo, .inl (c_wo, 1875, .inl w_wo)), (mlu, .inl (c_lu, 20000, .inl w_lu))]) [0, 1, 2] (by decide) rfl
        have hK9 := hK.sub (tys' := [(c_wo, .int), (c_lu, .int)]) [0, 1] rfl
        exact W.iret (v := y_91) hx hb hr (fun t ht hW => ⟨⟨y_91, (), rfl, (rg_w b_y_91 (by decide) (by decide)), o0_153, by rw [ht]; exact hP9, va_K.moved hW.alike hK9, hD9⟩, hS.F ht⟩) hS.2.2 dX10_first_48
  ·
    have n_c_80 : (r_79.toInt : Int) = 0 := c_eq rfl (by decide) c_80
    have b_r_79 : (0 : Int) ≤ r_79.toInt ∧ r_79.toInt ≤ 0 := r_eq1 b_r_79 (by decide : (0 : Int) ≤ (0 : Int32).toInt ∧ (0 : Int32).toInt ≤ 0) n_c_80 (by decide)
    refine lv_bipush (v := (-2)) hx hb dX10_first_10 (by decide) ?_
    have hP9 := hP.sub (ws' := [(o0, .inr (8, [.int x_th, .ref mwo, .ref mim, .ref mhi, .ref mlu, .ref mtp, .int x_td, .ref mfv, .int x_sz, .int x_at, .int x_fr, .int x_to, .int x_va, .int x_fk, .int x_fp, .ref mfr, .ref mwt, .int x_wt, .int x_op, .int x_jo, .ref mfg, .ref mpl, .long x_dr, .ref mtm, .ref mfa, .ref mqu, .ref mmo, .ref mwy, .ref mwn, .ref mma, .ref mwi, .ref mnu, .ref mmv])), (mwo, .inl (c_wo, 1875, .inl w_wo)), (mlu, .inl (c_lu, 20000, .inl w_lu))]) [0, 1, 2] rfl
    have hD9 := hD.sub (ws' := [(o0, .inr (8, [.int x_th, .ref mwo, .ref mim, .ref mhi, .ref mlu, .ref mtp, .int x_td, .ref mfv, .int x_sz, .int x_at, .int x_fr, .int x_to, .int x_va, .int x_fk, .int x_fp, .ref mfr, .ref mwt, .int x_wt, .int x_op, .int x_jo, .ref mfg, .ref mpl, .long x_dr, .ref mtm, .ref mfa, .ref mqu, .ref mmo, .ref mwy, .ref mwn, .ref mma, .ref mwi, .ref mnu, .ref mmv])), (mwo, .inl (c_wo, 1875, .inl w_wo)), (mlu, .inl (c_lu, 20000, .inl w_lu))]) [0, 1, 2] (by decide) rfl
    have hK9 := hK.sub (tys' := [(c_wo, .int), (c_lu, .int)]) [0, 1] rfl
    exact W.iret (v := (-2)) hx hb hr (fun t ht hW => ⟨⟨(-2), (), rfl, (rg_w (by decide : (-2 : Int) ≤ ((-2) : Int32).toInt ∧ ((-2) : Int32).toInt ≤ -2) (by decide) (by decide)), x_dr, by rw [ht]; exact hP9, va_K.moved hW.alike hK9, hD9⟩, hS.F ht⟩) hS.2.2 dX10_first_12
