theorem dX10_cut_0 : decode cX10_cut 0 = .ok (.bipush 64, 2) := by decide +kernel
theorem dX10_cut_2 : decode cX10_cut 2 = .ok (.bipush 8, 2) := by decide +kernel
theorem dX10_cut_4 : decode cX10_cut 4 = .ok (.iload_n 2, 1) := by decide +kernel
theorem dX10_cut_5 : decode cX10_cut 5 = .ok (.ishl, 1) := by decide +kernel
theorem dX10_cut_6 : decode cX10_cut 6 = .ok (.isub, 1) := by decide +kernel
theorem dX10_cut_7 : decode cX10_cut 7 = .ok (.istore_n 3, 1) := by decide +kernel
theorem dX10_cut_8 : decode cX10_cut 8 = .ok (.lload_n 0, 1) := by decide +kernel
theorem dX10_cut_9 : decode cX10_cut 9 = .ok (.iload_n 3, 1) := by decide +kernel
theorem dX10_cut_10 : decode cX10_cut 10 = .ok (.lshl, 1) := by decide +kernel
theorem dX10_cut_11 : decode cX10_cut 11 = .ok (.iload_n 3, 1) := by decide +kernel
theorem dX10_cut_12 : decode cX10_cut 12 = .ok (.lshr, 1) := by decide +kernel
theorem dX10_cut_13 : decode cX10_cut 13 = .ok (.lreturn, 1) := by decide +kernel
theorem hd_yX10_cut : yX10_cut.cls = RX10 ∧ yX10_cut.cls ≠ "java/lang/invoke/MethodHandle" ∧ yX10_cut.cls ≠ "java/lang/invoke/VarHandle" ∧ (parseMethodDescriptor yX10_cut.desc).map (fun d => d.parameters.length) = some 2 := by decide +kernel
def uX10_cut : List Cond := List.cons (.code yX10_cut cX10_cut 4 (some .long)) ([] : List Cond)
theorem guX10_cut : GU uX10_cut := gu_cons (gu_all (by decide +kernel))
set_option maxHeartbeats 4000000 in
set_option maxRecDepth 100000 in
theorem kX10_cut (l : Launch) (dC : Nat → ClassId) (dI : Nat → Nat → Nat) (a1 : Int64) (a2 : Int32) : Met l yX10_cut uX10_cut ({ frames := 0, cells := 0, slots := 0, locals := 0 }) (va_Pc [.long a1, .int a2] (fun _ => True)) (vp_Sl (fun r => True)) 0 0 (fun _ => False) := by
  refine Met.ofW (cc := cX10_cut) (maxL := 4) (ret := (some .long)) pn_X10 rfl ?_
  intro p e s m args below meth c s₁ B hml hv
  obtain ⟨rfl, _⟩ := hv
  have hx := B.exec
  have hb := B.bytes
  have hr := B.returns
  have hts := atoms_spec (ws := uX10_cut) B.pre
  have hown : s.vm.findClass RX10 = some m.cls := hown_of B.named rfl
  have hlocks := B.notSynchronized
  have hl := lv_entry ([.long a1, .int a2]) (n := 4) (Nat.le_of_ble_eq_true rfl)
  rw [lg_entry_eq]
  generalize (lg_sl ([.long a1, .int a2]) ++ List.replicate (4 - (lg_sl ([.long a1, .int a2])).length) Slot.unset).toArray = ls at hl ⊢
  have hl : lv_has ls 4 [(0, .long a1), (2, .int a2)] := hl
  refine lv_bipush (v := 64) hx hb dX10_cut_0 (by decide) ?_
  refine lv_bipush (v := 8) hx hb dX10_cut_2 (by decide) ?_
  refine lv_iload_n hx hb dX10_cut_4 rfl (lv_at hl 1 rfl) ?_
  refine lv_ishl hx hb dX10_cut_5 ?_
  refine lv_topi (fun z_5 e_z_5 => ?_)
  refine lv_isub hx hb dX10_cut_6 ?_
  refine lv_topi (fun z_6 e_z_6 => ?_)
  refine lv_istore_n (lv' := [(3, .int z_6), (0, .long a1), (2, .int a2)]) hx hb dX10_cut_7 rfl hl (by decide) rfl (fun ls hl => ?_)
  refine lv_lload_n hx hb dX10_cut_8 rfl (lv_at hl 1 rfl) ?_
  refine lv_iload_n hx hb dX10_cut_9 rfl (lv_at hl 0 rfl) ?_
  obtain ⟨z_7, e_z_7⟩ : ∃ y : Int64, y = (a1 : Int64) <<< ((z_6 : Int32).toInt64 &&& 63) := ⟨_, rfl⟩
  refine lv_lshl (v := z_7) hx hb dX10_cut_10 e_z_7.symm ?_
  refine lv_iload_n hx hb dX10_cut_11 rfl (lv_at hl 0 rfl) ?_
  obtain ⟨z_8, e_z_8⟩ : ∃ y : Int64, y = (z_7 : Int64) >>> ((z_6 : Int32).toInt64 &&& 63) := ⟨_, rfl⟩
  refine lv_lshr (v := z_8) hx hb dX10_cut_12 e_z_8.symm ?_
  exact W.lret (v := z_8) hx hb hr (fun t ht hW => ⟨z_8, rfl, trivial, ht⟩) t_nil dX10_cut_13
theorem dX10_lucky_0 : decode cX10_lucky 0 = .ok (.aload_n 0, 1) := by decide +kernel
theorem dX10_lucky_1 : decode cX10_lucky 1 = .ok (.iload_n 1, 1) := by decide +kernel
theorem dX10_lucky_2 : decode cX10_lucky 2 = .ok (.iload_n 2, 1) := by decide +kernel
theorem dX10_lucky_3 : decode cX10_lucky 3 = .ok (.invokevirtual 313, 3) := by decide +kernel
theorem dX10_lucky_6 : decode cX10_lucky 6 = .ok (.ifCond .ne 8, 3) := by decide +kernel
theorem dX10_lucky_9 : decode cX10_lucky 9 = .ok (.bipush (-2), 2) := by decide +kernel
theorem dX10_lucky_11 : decode cX10_lucky 11 = .ok (.goto 17, 3) := by decide +kernel
theorem dX10_lucky_14 : decode cX10_lucky 14 = .ok (.aload_n 0, 1) := by decide +kernel
theorem dX10_lucky_15 : decode cX10_lucky 15 = .ok (.iload_n 1, 1) := by decide +kernel
theorem dX10_lucky_16 : decode cX10_lucky 16 = .ok (.iload_n 2, 1) := by decide +kernel
theorem dX10_lucky_17 : decode cX10_lucky 17 = .ok (.invokevirtual 316, 3) := by decide +kernel
theorem dX10_lucky_20 : decode cX10_lucky 20 = .ok (.ifCond .eq 7, 3) := by decide +kernel
theorem dX10_lucky_23 : decode cX10_lucky 23 = .ok (.iconst 1, 1) := by decide +kernel
theorem dX10_lucky_24 : decode cX10_lucky 24 = .ok (.goto 4, 3) := by decide +kernel
theorem dX10_lucky_27 : decode cX10_lucky 27 = .ok (.iconst 0, 1) := by decide +kernel
theorem dX10_lucky_28 : decode cX10_lucky 28 = .ok (.ireturn, 1) := by decide +kernel
theorem hd_yX10_lucky : yX10_lucky.cls = RX10 ∧ yX10_lucky.cls ≠ "java/lang/invoke/MethodHandle" ∧ yX10_lucky.cls ≠ "java/lang/invoke/VarHandle" ∧ (parseMethodDescriptor yX10_lucky.desc).map (fun d => d.parameters.length) = some 2 := by decide +kernel
def uX10_lucky : List Cond := List.cons (.code yX10_lucky cX10_lucky 3 (some .int)) (HAppend.hAppend ([.methodLink RX10 313 yX10_isBoth, .instanceMethod yX10_isBoth, .selects RX10 yX10_isBoth yX10_isBoth, .initialized RX10, .methodLink RX10 316 yX10_isLucky, .instanceMethod yX10_isLucky, .selects RX10 yX10_isLucky yX10_isLucky] : List Cond) (HAppend.hAppend uX10_isBoth uX10_isLucky))
theorem guX10_lucky : GU uX10_lucky := gu_cons (gu_app (by decide +kernel) (gu_ap guX10_isBoth guX10_isLucky))
theorem gX10_lucky__X10_isBoth_V313 : GoodIn uX10_lucky (wsV RX10 313 RX10 yX10_isBoth uX10_isBoth) := gin_V (List.mem_of_getElem? (i := 1) rfl) (List.mem_of_getElem? (i := 2) rfl) (List.mem_of_getElem? (i := 3) rfl) (List.mem_of_getElem? (i := 4) rfl) (fun _ h => (List.mem_cons_of_mem _ (List.mem_append_right _ (List.mem_append_left _ h)))) guX10_isBoth
theorem gX10_lucky__X10_isLucky_V316 : GoodIn uX10_lucky (wsV RX10 316 RX10 yX10_isLucky uX10_isLucky) := gin_V (List.mem_of_getElem? (i := 5) rfl) (List.mem_of_getElem? (i := 6) rfl) (List.mem_of_getElem? (i := 7) rfl) (List.mem_of_getElem? (i := 4) rfl) (fun _ h => (List.mem_cons_of_mem _ (List.mem_append_right _ (List.mem_append_right _ h)))) guX10_isLucky
set_option maxHeartbeats 4000000 in
set_option maxRecDepth 100000 in
theorem kX10_lucky (l : Launch) (dC : Nat → ClassId) (dI : Nat → Nat → Nat) (o0 : Nat) (x_th : Int32) (mwo : Nat) (mim : Nat) (mhi : Nat) (mlu : Nat) (mtp : Nat) (x_td : Int32) (mfv : Nat) (x_sz : Int32) (x_at : Int32) (x_fr : Int32) (x_to : Int32) (x_va : Int32) (x_fk : Int32) (x_fp : Int32) (mfr : Nat) (mwt : Nat) (x_wt : Int32) (x_op : Int32) (x_jo : Int32) (mfg : Nat) (mpl : Nat) (x_dr : Int64) (mtm : Nat) (mfa : Nat) (mqu : Nat) (mmo : Nat) (mwy : Nat) (mwn : Nat) (mma : Nat) (mwi : Nat) (mnu : Nat) (mmv : Nat) (c_wo : ClassId) (c_lu : ClassId) (w_wo : Nat → Int32) (w_lu : Nat → Int32) (ln : Int32) (bs : Int32) (tk : Int32) (lw : Int32) (li : Int32) (a1 : Int32) (a2 : Int32) (b_ln : (0 : Int) ≤ ln.toInt ∧ ln.toInt ≤ 12) (b_bs : (0 : Int) ≤ bs.toInt ∧ bs.toInt ≤ 16) (b_tk : (0 : Int) ≤ tk.toInt ∧ tk.toInt ≤ 20000) (b_lw : (0 : Int) ≤ lw.toInt ∧ lw.toInt ≤ 9) (hw0 : w_wo 0 = ln) (hw1 : w_wo 1 = bs) (hw2 : w_wo 2 = tk) (hw3 : w_wo 3 = lw) (hw4 : w_wo 4 = li) (hwz : (ln.toInt = 0 ∧ bs.toInt = 0 ∧ tk.toInt = 0 ∧ lw.toInt = 0) ∨ (1 ≤ ln.toInt ∧ 2 ≤ bs.toInt ∧ 1 ≤ tk.toInt)) : Met l yX10_lucky uX10_lucky ({ frames := 3, cells := 0, slots := 0, locals := 69 }) (va_Pc [.ref o0, .int a1, .int a2] (pw (dC, dI) vwCl [(o0, .inr (8, [.int x_th, .ref mwo, .ref mim, .ref mhi, .ref mlu, .ref mtp, .int x_td, .ref mfv, .int x_sz, .int x_at, .int x_fr, .int x_to, .int x_va, .int x_fk, .int x_fp, .ref mfr, .ref mwt, .int x_wt, .int x_op, .int x_jo, .ref mfg, .ref mpl, .long x_dr, .ref mtm, .ref mfa, .ref mqu, .ref mmo, .ref mwy, .ref mwn, .ref mma, .ref mwi, .ref mnu, .ref mmv])), (mwo, .inl (c_wo, 1875, .inl w_wo)), (mlu, .inl (c_lu, 20000, .inl w_lu))] [(c_wo, .int), (c_lu, .int)])) (vp_Si (fun r => ((-2 : Int) ≤ r.toInt ∧ r.toInt ≤ 1))) 0 0 (fun _ => False) := by
  refine Met.ofW (cc := cX10_lucky) (maxL := 3) (ret := (some .int)) pn_X10 rfl ?_
  intro p e s m args below meth c s₁ B hml hv
  obtain ⟨rfl, hP, hK, hN⟩ := hv
  have hx := B.exec
  have hb := B.bytes
  have hr := B.returns
  have hts := atoms_spec (ws := uX10_lucky) B.pre
  have hown : s.vm.findClass RX10 = some m.cls := hown_of B.named rfl
  have hlocks := B.notSynchronized
  have hl := lv_entry ([.ref o0, .int a1, .int a2]) (n := 3) (Nat.le_of_ble_eq_true rfl)
  rw [lg_entry_eq]
  generalize (lg_sl ([.ref o0, .int a1, .int a2]) ++ List.replicate (3 - (lg_sl ([.ref o0, .int a1, .int a2])).length) Slot.unset).toArray = ls at hl ⊢
  have hl : lv_has ls 3 [(0, .ref o0), (1, .int a1), (2, .int a2)] := hl
  refine lv_aload_n hx hb dX10_lucky_0 rfl (lv_at hl 0 rfl) ?_
  refine lv_iload_n hx hb dX10_lucky_1 rfl (lv_at hl 1 rfl) ?_
  refine lv_iload_n hx hb dX10_lucky_2 rfl (lv_at hl 2 rfl) ?_
  refine vp_callSi (W.runV (As := [.int a1, .int a2]) (rest := []) ⟨hx, hb, hml, hown, hts⟩ (kX10_isBoth l dC dI o0 x_th mwo mim mhi mlu mtp x_td mfv x_sz x_at x_fr x_to x_va x_fk x_fp mfr mwt x_wt x_op x_jo mfg mpl x_dr mtm mfa mqu mmo mwy mwn mma mwi mnu mmv c_wo w_wo ln bs tk lw li a1 a2 b_ln b_bs b_tk b_lw (hw0) (hw1) (hw2) (hw3) (hw4) (hwz)) (cwV 2 hts gX10_lucky__X10_isBoth_V313 rfl rfl rfl hd_yX10_isBoth ⟨lel 3 3 rfl, lel 69 69 rfl⟩) ⟨pw_fb, rcv_X10 hK hP (q0 := 0) rfl, (pw_use hP hK hN [0, 1] rfl [0] rfl)⟩ rfl rfl hl.1 rfl (lv_room (Nat.le_of_ble_eq_true rfl)) dX10_lucky_3 ⟨lel 0 0 rfl, lel 0 0 rfl⟩) (fun r_6 h_r_6 => ?_)
  obtain ⟨b_r_6, nz_r_6⟩ := h_r_6
  have b_r_6 : (0 : Int) ≤ r_6.toInt ∧ r_6.toInt ≤ 1 := b_r_6
  refine lv_if_ne (tgt := 14) hx hb dX10_lucky_6 (by decide) (fun c_7 => ?_) (fun c_7 => ?_)
  ·
    have n_c_7 : (r_6.toInt : Int) ≠ 0 := c_ne rfl (by decide) c_7
    have b_r_6 : (1 : Int) ≤ r_6.toInt ∧ r_6.toInt ≤ 1 := r_ne1 b_r_6 (by decide : (0 : Int) ≤ (0 : Int32).toInt ∧ (0 : Int32).toInt ≤ 0) n_c_7 (by decide)
    obtain ⟨b_a1, b_a2, g_8⟩ := nz_r_6 c_7
    refine lv_aload_n hx hb dX10_lucky_14 rfl (lv_at hl 0 rfl) ?_
    refine lv_iload_n hx hb dX10_lucky_15 rfl (lv_at hl 1 rfl) ?_
    refine lv_iload_n hx hb dX10_lucky_16 rfl (lv_at hl 2 rfl) ?_
    refine vp_callSi (W.runV (As := [.int a1, .int a2]) (rest := []) ⟨hx, hb, hml, hown, hts⟩ (kX10_isLucky l dC dI o0 x_th mwo mim mhi mlu mtp x_td mfv x_sz x_at x_fr x_to x_va x_fk x_fp mfr mwt x_wt x_op x_jo mfg mpl x_dr mtm mfa mqu mmo mwy mwn mma mwi mnu mmv c_wo c_lu w_wo w_lu ln bs tk lw li a1 a2 b_ln b_bs b_tk b_lw b_a2 (hw0) (hw1) (hw2) (hw3) (hw4) (hwz)) (cwV 2 hts gX10_lucky__X10_isLucky_V316 rfl rfl rfl hd_yX10_isLucky ⟨lel 1 3 rfl, lel 22 69 rfl⟩) ⟨pw_fb, rcv_X10 hK hP (q0 := 0) rfl, (pw_use hP hK hN [0, 1, 2] rfl [0, 1] rfl)⟩ rfl rfl hl.1 rfl (lv_room (Nat.le_of_ble_eq_true rfl)) dX10_lucky_17 ⟨lel 0 0 rfl, lel 0 0 rfl⟩) (fun r_9 h_r_9 => ?_)
    have b_r_9 := h_r_9
    have b_r_9 : (0 : Int) ≤ r_9.toInt ∧ r_9.toInt ≤ 1 := b_r_9
    refine lv_if_eq (tgt := 27) hx hb dX10_lucky_20 (by decide) (fun c_10 => ?_) (fun c_10 => ?_)
    ·
      have n_c_10 : (r_9.toInt : Int) = 0 := c_eq rfl (by decide) c_10
      have b_r_9 : (0 : Int) ≤ r_9.toInt ∧ r_9.toInt ≤ 0 := r_eq1 b_r_9 (by decide : (0 : Int) ≤ (0 : Int32).toInt ∧ (0 : Int32).toInt ≤ 0) n_c_10 (by decide)
      refine lv_iconst (v := 0) hx hb dX10_lucky_27 (by decide) ?_
      exact W.iret (v := 0) hx hb hr (fun t ht hW => ⟨0, rfl, (rg_w (by decide : (0 : Int) ≤ (0 : Int32).toInt ∧ (0 : Int32).toInt ≤ 0) (by decide) (by decide)), ht⟩) t_nil dX10_lucky_28
    ·
      have n_c_10 : (r_9.toInt : Int) ≠ 0 := c_ne rfl (by decide) c_10
      have b_r_9 : (1 : Int) ≤ r_9.toInt ∧ r_9.toInt ≤ 1 := r_ne1 b_r_9 (by decide : (0 : Int) ≤ (0 : Int32).toInt ∧ (0 : Int32).toInt ≤ 0) n_c_10 (by decide)
      refine lv_iconst (v := 1) hx hb dX10_lucky_23 (by decide) ?_
      refine lv_goto (tgt := 28) hx hb dX10_lucky_24 (by decide) ?_
      exact W.iret (v := 1) hx hb hr (fun t ht hW => ⟨1, rfl, (rg_w (by decide : (1 : Int) ≤ (1 : Int32).toInt ∧ (1 : Int32).toInt ≤ 1) (by decide) (by decide)), ht⟩) t_nil dX10_lucky_28
  ·
    have n_c_7 : (r_6.toInt : Int) = 0 := c_eq rfl (by decide) c_7
    have b_r_6 : (0 : Int) ≤ r_6.toInt ∧ r_6.toInt ≤ 0 := r_eq1 b_r_6 (by decide : (0 : Int) ≤ (0 : Int32).toInt ∧ (0 : Int32).toInt ≤ 0) n_c_7 (by decide)
    refine lv_bipush (v := (-2)) hx hb dX10_lucky_9 (by decide) ?_
    refine lv_goto (tgt := 28) hx hb dX10_lucky_11 (by decide) ?_
    exact W.iret (v := (-2)) hx hb hr (fun t ht hW => ⟨(-2), rfl, (rg_w (by decide : (-2 : Int) ≤ ((-2) : Int32).toInt ∧ ((-2) : Int32).toInt ≤ -2) (by decide) (by decide)), ht⟩) t_nil dX10_lucky_28
theorem dX10_laws_0 : decode cX10_laws 0 = .ok (.aload_n 0, 1) := by decide +kernel
theorem dX10_laws_1 : decode cX10_laws 1 = .ok (.iload_n 1, 1) := by decide +kernel
theorem dX10_laws_2 : decode cX10_laws 2 = .ok (.i2l, 1) := by decide +kernel
theorem dX10_laws_3 : decode cX10_laws 3 = .ok (.invokevirtual 93, 3) := by decide +kernel
theorem dX10_laws_6 : decode cX10_laws 6 = .ok (.ifCond .eq 12, 3) := by decide +kernel
theorem dX10_laws_9 : decode cX10_laws 9 = .ok (.aload_n 0, 1) := by decide +kernel
theorem dX10_laws_10 : decode cX10_laws 10 = .ok (.getfield 20, 3) := by decide +kernel
theorem dX10_laws_13 : decode cX10_laws 13 = .ok (.iload_n 1, 1) := by decide +kernel
theorem dX10_laws_14 : decode cX10_laws 14 = .ok (.iaload, 1) := by decide +kernel
theorem dX10_laws_15 : decode cX10_laws 15 = .ok (.goto 5, 3) := by decide +kernel
theorem dX10_laws_18 : decode cX10_laws 18 = .ok (.bipush (-2), 2) := by decide +kernel
theorem dX10_laws_20 : decode cX10_laws 20 = .ok (.ireturn, 1) := by decide +kernel
theorem hd_yX10_laws : yX10_laws.cls = RX10 ∧ yX10_laws.cls ≠ "java/lang/invoke/MethodHandle" ∧ yX10_laws.cls ≠ "java/lang/invoke/VarHandle" ∧ (parseMethodDescriptor yX10_laws.desc).map (fun d => d.parameters.length) = some 1 := by decide +kernel
def uX10_laws : List Cond := List.cons (.code yX10_laws cX10_laws 2 (some .int)) (HAppend.hAppend ([.methodLink RX10 93 yX10_isTicket, .instanceMethod yX10_isTicket, .selects RX10 yX10_isTicket yX10_isTicket, .initialized RX10, .fieldLink RX10 20 "LuckyTicketModel" "luck" "[I"] : List Cond) (HAppend.hAppend uX10_isTicket wsX100))
theorem iX10_laws_X10 : ∀ w ∈ wsX100, w ∈ uX10_laws := fun _ h => (List.mem_cons_of_mem _ (List.mem_append_right _ (List.mem_append_right _ h)))
theorem guX10_laws : GU uX10_laws := gu_cons (gu_app (by decide +kernel) (gu_ap guX10_isTicket gws_X10))
theorem gX10_laws__X10_isTicket_V93 : GoodIn uX10_laws (wsV RX10 93 RX10 yX10_isTicket uX10_isTicket) := gin_V (List.mem_of_getElem? (i := 1) rfl) (List.mem_of_getElem? (i := 2) rfl) (List.mem_of_getElem? (i := 3) rfl) (List.mem_of_getElem? (i := 4) rfl) (fun _ h => (List.mem_cons_of_mem _ (List.mem_append_right _ (List.mem_append_left _ h)))) guX10_isTicket
set_option maxHeartbeats 4000000 in
set_option maxRecDepth 100000 in
theorem kX10_laws (l : Launch) (dC : Nat → ClassId) (dI : Nat → Nat → Nat) (o0 : Nat) (x_th : Int32) (mwo : Nat) (mim : Nat) (mhi : Nat) (mlu : Nat) (mtp : Nat) (x_td : Int32) (mfv : Nat) (x_sz : Int32) (x_at : Int32) (x_fr : Int32) (x_to : Int32) (x_va : Int32) (x_fk : Int32) (x_fp : Int32) (mfr : Nat) (mwt : Nat) (x_wt : Int32) (x_op : Int32) (x_jo : Int32) (mfg : Nat) (mpl : Nat) (x_dr : Int64) (mtm : Nat) (mfa : Nat) (mqu : Nat) (mmo : Nat) (mwy : Nat) (mwn : Nat) (mma : Nat) (mwi : Nat) (mnu : Nat) (mmv : Nat) (c_wo : ClassId) (c_lu : ClassId) (w_wo : Nat → Int32) (w_lu : Nat → Int32) (ln : Int32) (bs : Int32) (tk : Int32) (lw : Int32) (li : Int32) (a1 : Int32) (b_ln : (0 : Int) ≤ ln.toInt ∧ ln.toInt ≤ 12) (b_bs : (0 : Int) ≤ bs.toInt ∧ bs.toInt ≤ 16) (b_tk : (0 : Int) ≤ tk.toInt ∧ tk.toInt ≤ 20000) (b_lw : (0 : Int) ≤ lw.toInt ∧ lw.toInt ≤ 9) (hw0 : w_wo 0 = ln) (hw1 : w_wo 1 = bs) (hw2 : w_wo 2 = tk) (hw3 : w_wo 3 = lw) (hw4 : w_wo 4 = li) (hwz : (ln.toInt = 0 ∧ bs.toInt = 0 ∧ tk.toInt = 0 ∧ lw.toInt = 0) ∨ (1 ≤ ln.toInt ∧ 2 ≤ bs.toInt ∧ 1 ≤ tk.toInt)) : Met l yX10_laws uX10_laws ({ frames := 2, cells := 0, slots := 0, locals := 47 }) (va_Pc [.ref o0, .int a1] (pw (dC, dI) vwCl [(o0, .inr (8, [.int x_th, .ref mwo, .ref mim, .ref mhi, .ref mlu, .ref mtp, .int x_td, .ref mfv, .int x_sz, .int x_at, .int x_fr, .int x_to, .int x_va, .int x_fk, .int x_fp, .ref mfr, .ref mwt, .int x_wt, .int x_op, .int x_jo, .ref mfg, .ref mpl, .long x_dr, .ref mtm, .ref mfa, .ref mqu, .ref mmo, .ref mwy, .ref mwn, .ref mma, .ref mwi, .ref mnu, .ref mmv])), (mwo, .inl (c_wo, 1875, .inl w_wo)), (mlu, .inl (c_lu, 20000, .inl w_lu))] [(c_wo, .int), (c_lu, .int)])) (vp_Si (fun r => True)) 0 0 (fun _ => False) := by
  refine Met.ofW (cc := cX10_laws) (maxL := 2) (ret := (some .int)) pn_X10 rfl ?_
  intro p e s m args below meth c s₁ B hml hv
  obtain ⟨rfl, hP, hK, hN⟩ := hv
  have hx := B.exec
  have hb := B.bytes
  have hr := B.returns
  have hts := atoms_spec (ws := uX10_laws) B.pre
  have hown : s.vm.findClass RX10 = some m.cls := hown_of B.named rfl
  have hlocks := B.notSynchronized
  have hl := lv_entry ([.ref o0, .int a1]) (n := 2) (Nat.le_of_ble_eq_true rfl)
  rw [lg_entry_eq]
  generalize (lg_sl ([.ref o0, .int a1]) ++ List.replicate (2 - (lg_sl ([.ref o0, .int a1])).length) Slot.unset).toArray = ls at hl ⊢
  have hl : lv_has ls 2 [(0, .ref o0), (1, .int a1)] := hl
  refine lv_aload_n hx hb dX10_laws_0 rfl (lv_at hl 0 rfl) ?_
  refine lv_iload_n hx hb dX10_laws_1 rfl (lv_at hl 1 rfl) ?_
  obtain ⟨z_6, e_z_6⟩ : ∃ y : Int64, y = a1.toInt64 := ⟨_, rfl⟩
  refine lv_i2l (v := z_6) hx hb dX10_laws_2 e_z_6.symm ?_
  obtain ⟨q_z_6, b_z_6⟩ := ti_i2l e_z_6 (ti_rng a1)
  refine vp_callSi (W.runV (As := [.long z_6]) (rest := []) ⟨hx, hb, hml, hown, hts⟩ (kX10_isTicket l dC dI o0 x_th mwo mim mhi mlu mtp x_td mfv x_sz x_at x_fr x_to x_va x_fk x_fp mfr mwt x_wt x_op x_jo mfg mpl x_dr mtm mfa mqu mmo mwy mwn mma mwi mnu mmv c_wo w_wo ln bs tk lw li z_6 b_ln b_bs b_tk b_lw (hw0) (hw1) (hw2) (hw3) (hw4) (hwz)) (cwV 1 hts gX10_laws__X10_isTicket_V93 rfl rfl rfl hd_yX10_isTicket ⟨lel 2 2 rfl, lel 47 47 rfl⟩) ⟨pw_fb, rcv_X10 hK hP (q0 := 0) rfl, (pw_use hP hK hN [0, 1] rfl [0] rfl)⟩ rfl rfl hl.1 rfl (lv_room (Nat.le_of_ble_eq_true rfl)) dX10_laws_3 ⟨lel 0 0 rfl, lel 0 0 rfl⟩) (fun r_7 h_r_7 => ?_)
  obtain ⟨b_r_7, nz_r_7⟩ := h_r_7
  have b_r_7 : (0 : Int) ≤ r_7.toInt ∧ r_7.toInt ≤ 1 := b_r_7
  refine lv_if_eq (tgt := 18) hx hb dX10_laws_6 (by decide) (fun c_8 => ?_) (fun c_8 => ?_)
  ·
    have n_c_8 : (r_7.toInt : Int) = 0 := c_eq rfl (by decide) c_8
    have b_r_7 : (0 : Int) ≤ r_7.toInt ∧ r_7.toInt ≤ 0 := r_eq1 b_r_7 (by decide : (0 : Int) ≤ (0 : Int32).toInt ∧ (0 : Int32).toInt ≤ 0) n_c_8 (by decide)
    refine lv_bipush (v := (-2)) hx hb dX10_laws_18 (by decide) ?_
    exact W.iret (v := (-2)) hx hb hr (fun t ht hW => ⟨(-2), rfl, trivial, ht⟩) t_nil dX10_laws_20
  ·
    have n_c_8 : (r_7.toInt : Int) ≠ 0 := c_ne rfl (by decide) c_8
    have b_r_7 : (1 : Int) ≤ r_7.toInt ∧ r_7.toInt ≤ 1 := r_ne1 b_r_7 (by decide : (0 : Int) ≤ (0 : Int32).toInt ∧ (0 : Int32).toInt ≤ 0) n_c_8 (by decide)
    obtain ⟨b_z_6, g_9⟩ := nz_r_7 c_8
    have b_a1 : (0 : Int) ≤ a1.toInt ∧ a1.toInt ≤ 19999 := by
      have q0 := b_z_6; have q1 := q_z_6; have q2 := (ti_rng a1); omega
    refine lv_aload_n hx hb dX10_laws_9 rfl (lv_at hl 0 rfl) ?_
    refine va_get (D := (dC, dI)) (ci := 8) (v := .ref mlu) (C := RX10) (T := TX10) (N := 33) hx hb hts iX10_laws_X10 hown hK hP 0 rfl rfl 4 (by decide) (hts (.fieldLink RX10 20 "LuckyTicketModel" "luck" "[I") (List.mem_of_getElem? (i := 5) rfl)) (fun _ h9 => h9) rfl dX10_laws_10 ?_
    refine lv_iload_n hx hb dX10_laws_13 rfl (lv_at hl 1 rfl) ?_
    refine va_iald hx hb hK hP 2 1 rfl rfl (vp_in_b b_a1 (by decide) (by decide)) dX10_laws_14 ?_
    refine lv_topi (fun z_10 e_z_10 => ?_)
    refine lv_goto (tgt := 20) hx hb dX10_laws_15 (by decide) ?_
    exact W.iret (v := z_10) hx hb hr (fun t ht hW => ⟨z_10, rfl, trivial, ht⟩) t_nil dX10_laws_20
theorem dX10_rankOf_0 : decode cX10_rankOf 0 = .ok (.iconst 0, 1) := by decide +kernel
theorem dX10_rankOf_1 : decode cX10_rankOf 1 = .ok (.istore_n 3, 1) := by decide +kernel
theorem dX10_rankOf_2 : decode cX10_rankOf 2 = .ok (.iconst 0, 1) := by decide +kernel
theorem dX10_rankOf_3 : decode cX10_rankOf 3 = .ok (.istore 4, 2) := by decide +kernel
theorem dX10_rankOf_5 : decode cX10_rankOf 5 = .ok (.iload 4, 2) := by decide +kernel
theorem dX10_rankOf_7 : decode cX10_rankOf 7 = .ok (.iload_n 2, 1) := by decide +kernel
theorem dX10_rankOf_8 : decode cX10_rankOf 8 = .ok (.if_icmp .ge 23, 3) := by decide +kernel
theorem dX10_rankOf_11 : decode cX10_rankOf 11 = .ok (.iload_n 3, 1) := by decide +kernel
theorem dX10_rankOf_12 : decode cX10_rankOf 12 = .ok (.aload_n 0, 1) := by decide +kernel
theorem dX10_rankOf_13 : decode cX10_rankOf 13 = .ok (.getfield 20, 3) := by decide +kernel
theorem dX10_rankOf_16 : decode cX10_rankOf 16 = .ok (.iload 4, 2) := by decide +kernel
theorem dX10_rankOf_18 : decode cX10_rankOf 18 = .ok (.iaload, 1) := by decide +kernel
theorem dX10_rankOf_19 : decode cX10_rankOf 19 = .ok (.iload_n 1, 1) := by decide +kernel
theorem dX10_rankOf_20 : decode cX10_rankOf 20 = .ok (.ishr, 1) := by decide +kernel
theorem dX10_rankOf_21 : decode cX10_rankOf 21 = .ok (.iconst 1, 1) := by decide +kernel
theorem dX10_rankOf_22 : decode cX10_rankOf 22 = .ok (.iand, 1) := by decide +kernel
theorem dX10_rankOf_23 : decode cX10_rankOf 23 = .ok (.iadd, 1) := by decide +kernel
theorem dX10_rankOf_24 : decode cX10_rankOf 24 = .ok (.istore_n 3, 1) := by decide +kernel
theorem dX10_rankOf_25 : decode cX10_rankOf 25 = .ok (.iinc 4 1, 3) := by decide +kernel
theorem dX10_rankOf_28 : decode cX10_rankOf 28 = .ok (.goto (-23), 3) := by decide +kernel
theorem dX10_rankOf_31 : decode cX10_rankOf 31 = .ok (.iload_n 3, 1) := by decide +kernel
theorem dX10_rankOf_32 : decode cX10_rankOf 32 = .ok (.ireturn, 1) := by decide +kernel
theorem hd_yX10_rankOf : yX10_rankOf.cls = RX10 ∧ yX10_rankOf.cls ≠ "java/lang/invoke/MethodHandle" ∧ yX10_rankOf.cls ≠ "java/lang/invoke/VarHandle" ∧ (parseMethodDescriptor yX10_rankOf.desc).map (fun d => d.parameters.length) = some 2 := by decide +kernel
def uX10_rankOf : List Cond := List.cons (.code yX10_rankOf cX10_rankOf 5 (some .int)) (HAppend.hAppend ([.fieldLink RX10 20 "LuckyTicketModel" "luck" "[I"] : List Cond) wsX100)
theorem iX10_rankOf_X10 : ∀ w ∈ wsX100, w ∈ uX10_rankOf := fun _ h => (List.mem_cons_of_mem _ (List.mem_append_right _ h))
theorem guX10_rankOf : GU uX10_rankOf := gu_cons (gu_app (by decide +kernel) gws_X10)
set_option maxHeartbeats 4000000 in
set_option maxRecDepth 100000 in
theorem kX10_rankOf (l : Launch) (dC : Nat → ClassId) (dI : Nat → Nat → Nat) (o0 : Nat) (x_th : Int32) (mwo : Nat) (mim : Nat) (mhi : Nat) (mlu : Nat) (mtp : Nat) (x_td : Int32) (mfv : Nat) (x_sz : Int32) (x_at : Int32) (x_fr : Int32) (x_to : Int32) (x_va : Int32) (x_fk : Int32) (x_fp : Int32) (mfr : Nat) (mwt : Nat) (x_wt : Int32) (x_op : Int32) (x_jo : Int32) (mfg : Nat) (mpl : Nat) (x_dr : Int64) (mtm : Nat) (mfa : Nat) (mqu : Nat) (mmo : Nat) (mwy : Nat) (mwn : Nat) (mma : Nat) (mwi : Nat) (mnu : Nat) (mmv : Nat) (c_wo : ClassId) (c_lu : ClassId) (w_wo : Nat → Int32) (w_lu : Nat → Int32) (ln : Int32) (bs : Int32) (tk : Int32) (lw : Int32) (li : Int32) (a1 : Int32) (a2 : Int32) (b_ln : (0 : Int) ≤ ln.toInt ∧ ln.toInt ≤ 12) (b_bs : (0 : Int) ≤ bs.toInt ∧ bs.toInt ≤ 16) (b_tk : (0 : Int) ≤ tk.toInt ∧ tk.toInt ≤ 20000) (b_lw : (0 : Int) ≤ lw.toInt ∧ lw.toInt ≤ 9) (b_a2 : (0 : Int) ≤ a2.toInt ∧ a2.toInt ≤ 20000) (hw0 : w_wo 0 = ln) (hw1 : w_wo 1 = bs) (hw2 : w_wo 2 = tk) (hw3 : w_wo 3 = lw) (hw4 : w_wo 4 = li) (hwz : (ln.toInt = 0 ∧ bs.toInt = 0 ∧ tk.toInt = 0 ∧ lw.toInt = 0) ∨ (1 ≤ ln.toInt ∧ 2 ≤ bs.toInt ∧ 1 ≤ tk.toInt)) : Met l yX10_rankOf uX10_rankOf ({ frames := 0, cells := 0, slots := 0, locals := 0 }) (va_Pc [.ref o0, .int a1, .int a2] (pw (dC, dI) vwCl [(o0, .inr (8, [.int x_th, .ref mwo, .ref mim, .ref mhi, .ref mlu, .ref mtp, .int x_td, .ref mfv, .int x_sz, .int x_at, .int x_fr, .int x_to, .int x_va, .int x_fk, .int x_fp, .ref mfr, .ref mwt, .int x_wt, .int x_op, .int x_jo, .ref mfg, .ref mpl, .long x_dr, .ref mtm, .ref mfa, .ref mqu, .ref mmo, .ref mwy, .ref mwn, .ref mma, .ref mwi, .ref mnu, .ref mmv])), (mwo, .inl (c_wo, 1875, .inl w_wo)), (mlu, .inl (c_lu, 20000, .inl w_lu))] [(c_wo, .int), (c_lu, .int)])) (vp_Si (fun r => ((0 : Int) ≤ r.toInt ∧ r.toInt ≤ 20000) ∧ (r.toInt ≤ a2.toInt))) 0 0 (fun _ => False) := by
  refine Met.ofW (cc := cX10_rankOf) (maxL := 5) (ret := (some .int)) pn_X10 rfl ?_
  intro p e s m args below meth c s₁ B hml hv
  obtain ⟨rfl, hP, hK, hN⟩ := hv
  have hx := B.exec
  have hb := B.bytes
  have hr := B.returns
  have hts := atoms_spec (ws := uX10_rankOf) B.pre
  have hown : s.vm.findClass RX10 = some m.cls := hown_of B.named rfl
  have hlocks := B.notSynchronized
  have hl := lv_entry ([.ref o0, .int a1, .int a2]) (n := 5) (Nat.le_of_ble_eq_true rfl)
  rw [lg_entry_eq]
  generalize (lg_sl ([.ref o0, .int a1, .int a2]) ++ List.replicate (5 - (lg_sl ([.ref o0, .int a1, .int a2])).length) Slot.unset).toArray = ls at hl ⊢
  have hl : lv_has ls 5 [(0, .ref o0), (1, .int a1), (2, .int a2)] := hl
  refine lv_iconst (v := 0) hx hb dX10_rankOf_0 (by decide) ?_
  refine lv_istore_n (lv' := [(3, .int 0), (0, .ref o0), (1, .int a1), (2, .int a2)]) hx hb dX10_rankOf_1 rfl hl (by decide) rfl (fun ls hl => ?_)
  refine lv_iconst (v := 0) hx hb dX10_rankOf_2 (by decide) ?_
  refine lv_istore (lv' := [(4, .int 0), (3, .int 0), (0, .ref o0), (1, .int a1), (2, .int a2)]) hx hb dX10_rankOf_3 hl (by decide) rfl (fun ls hl => ?_)
  refine loopP (σ := Int32 × Int32) (fun v => (20000 - v.1.toInt).toNat) (fun v ls => ((0 : Int) ≤ v.1.toInt ∧ v.1.toInt ≤ 20000) ∧ ((0 : Int) ≤ v.2.toInt ∧ v.2.toInt ≤ 20000) ∧ (0 ≤ v.2.toInt ∧ v.2.toInt ≤ v.1.toInt ∧ v.1.toInt ≤ a2.toInt) ∧ lv_has ls 5 [(4, .int v.1), (3, .int v.2), (0, .ref o0), (1, .int a1), (2, .int a2)]) (fun v ls hI ih_5_154 => ?_) ((0 : Int32), (0 : Int32)) ⟨(show (0 : Int) ≤ (0 : Int32).toInt ∧ (0 : Int32).toInt ≤ 20000 from (rg_w (by decide : (0 : Int) ≤ (0 : Int32).toInt ∧ (0 : Int32).toInt ≤ 0) (by decide) (by decide))), (show (0 : Int) ≤ (0 : Int32).toInt ∧ (0 : Int32).toInt ≤ 20000 from (rg_w (by decide : (0 : Int) ≤ (0 : Int32).toInt ∧ (0 : Int32).toInt ≤ 0) (by decide) (by decide))), (show 0 ≤ (0 : Int32).toInt ∧ (0 : Int32).toInt ≤ (0 : Int32).toInt ∧ (0 : Int32).toInt ≤ a2.toInt from (by have zl : (0 : Int32).toInt = 0 := (by decide); omega)), lv_sub hl [0, 1, 2, 3, 4] rfl⟩
  obtain ⟨y_87, y_88⟩ := v
  obtain ⟨b_y_87, b_y_88, hn, hl⟩ := hI
  have b_y_87 : (0 : Int) ≤ y_87.toInt ∧ y_87.toInt ≤ 20000 := b_y_87
  have b_y_88 : (0 : Int) ≤ y_88.toInt ∧ y_88.toInt ≤ 20000 := b_y_88
  have hn : 0 ≤ y_88.toInt ∧ y_88.toInt ≤ y_87.toInt ∧ y_87.toInt ≤ a2.toInt := hn
  have hl : lv_has ls 5 [(4, .int y_87), (3, .int y_88), (0, .ref o0), (1, .int a1), (2, .int a2)] := hl
  refine lv_iload hx hb dX10_rankOf_5 (lv_at hl 0 rfl) ?_
  refine lv_iload_n hx hb dX10_rankOf_7 rfl (lv_at hl 4 rfl) ?_
  refine lv_icmp_ge (tgt := 31) hx hb dX10_rankOf_8 (by decide) (fun c_155 => ?_) (fun c_155 => ?_)
  ·
    have n_c_155 : (a2.toInt : Int) ≤ y_87.toInt := c_ge rfl rfl c_155
    refine lv_iload_n hx hb dX10_rankOf_31 rfl (lv_at hl 1 rfl) ?_
    exact W.iret (v := y_88) hx hb hr (fun t ht hW => ⟨y_88, rfl, ⟨b_y_88, (by omega)⟩, ht⟩) t_nil dX10_rankOf_32
  ·
    have n_c_155 : (y_87.toInt : Int) < a2.toInt := c_nge rfl rfl c_155
    have b_y_87 : (0 : Int) ≤ y_87.toInt ∧ y_87.toInt ≤ 19999 := r_lt1 b_y_87 b_a2 n_c_155 (by decide)
    have b_a2 : (1 : Int) ≤ a2.toInt ∧ a2.toInt ≤ 20000 := r_lt2 b_y_87 b_a2 n_c_155 (by decide)
    refine lv_iload_n hx hb dX10_rankOf_11 rfl (lv_at hl 1 rfl) ?_
    refine lv_aload_n hx hb dX10_rankOf_12 rfl (lv_at hl 2 rfl) ?_
    refine va_get (D := (dC, dI)) (ci := 8) (v := .ref mlu) (C := RX10) (T := TX10) (N := 33) hx hb hts iX10_rankOf_X10 hown hK hP 0 rfl rfl 4 (by decide) (hts (.fieldLink RX10 20 "LuckyTicketModel" "luck" "[I") (List.mem_of_getElem? (i := 1) rfl)) (fun _ h9 => h9) rfl dX10_rankOf_13 ?_
    refine lv_iload hx hb dX10_rankOf_16 (lv_at hl 0 rfl) ?_
    refine va_iald hx hb hK hP 2 1 rfl rfl (vp_in_b b_y_87 (by decide) (by decide)) dX10_rankOf_18 ?_
    refine lv_topi (fun z_156 e_z_156 => ?_)
    refine lv_iload_n hx hb dX10_rankOf_19 rfl (lv_at hl 3 rfl) ?_
    refine lv_ishr hx hb dX10_rankOf_20 ?_
    refine lv_topi (fun z_157 e_z_157 => ?_)
    refine lv_iconst (v := 1) hx hb dX10_rankOf_21 (by decide) ?_
    refine lv_iand hx hb dX10_rankOf_22 ?_
    refine lv_topi (fun z_158 e_z_158 => ?_)
    have b_z_158 : (0 : Int) ≤ z_158.toInt ∧ z_158.toInt ≤ 1 := ti_and (k := 1) e_z_158 (by decide) (by decide) (by decide)
    refine lv_iadd hx hb dX10_rankOf_23 ?_
    refine lv_topi (fun z_159 e_z_159 => ?_)
    obtain ⟨q_z_159, b_z_159⟩ := ti_add (lo := 0) (hi := 20001) e_z_159 rfl rfl b_y_88 b_z_158 (by decide)
    refine lv_istore_n (lv' := [(3, .int z_159), (4, .int y_87), (0, .ref o0), (1, .int a1), (2, .int a2)]) hx hb dX10_rankOf_24 rfl hl (by decide) rfl (fun ls hl => ?_)
    obtain ⟨z_160, e_z_160⟩ : ∃ y : Int32, y = y_87 + 1 := ⟨_, rfl⟩
    refine lv_iinc (v := z_160) (lv' := [(4, .int z_160), (3, .int z_159), (0, .ref o0), (1, .int a1), (2, .int a2)]) hx hb dX10_rankOf_25 hl (k := 1) rfl (by rw [e_z_160]; rfl) (by decide) rfl (fun ls hl => ?_)
    obtain ⟨q_z_160, b_z_160⟩ := ti_add (lo := 1) (hi := 20000) e_z_160 rfl (by decide : (1 : Int32).toInt = 1) b_y_87 (by decide : (1 : Int) ≤ (1 : Int32).toInt ∧ (1 : Int32).toInt ≤ 1) (by decide)
    refine lv_goto (tgt := 5) hx hb dX10_rankOf_28 (by decide) ?_
    exact ih_5_154 (z_160, z_159) _ ⟨(show (0 : Int) ≤ z_160.toInt ∧ z_160.toInt ≤ 20000 from (rg_w b_z_160 (by decide) (by decide))), (show (0 : Int) ≤ z_159.toInt ∧ z_159.toInt ≤ 20000 from ⟨by omega, by omega⟩), (show 0 ≤ z_159.toInt ∧ z_159.toInt ≤ z_160.toInt ∧ z_160.toInt ≤ a2.toInt from (by omega)), lv_sub hl [0, 1, 2, 3, 4] rfl⟩ (show (20000 - z_160.toInt).toNat < (20000 - y_87.toInt).toNat by omega)
theorem dX10_allOf_0 : decode cX10_allOf 0 = .ok (.aload_n 0, 1) := by decide +kernel
theorem dX10_allOf_1 : decode cX10_allOf 1 = .ok (.iload_n 1, 1) := by decide +kernel
theorem dX10_allOf_2 : decode cX10_allOf 2 = .ok (.aload_n 0, 1) := by decide +kernel
theorem dX10_allOf_3 : decode cX10_allOf 3 = .ok (.getfield 9, 3) := by decide +kernel
theorem dX10_allOf_6 : decode cX10_allOf 6 = .ok (.iconst 2, 1) := by decide +kernel
theorem dX10_allOf_7 : decode cX10_allOf 7 = .ok (.iaload, 1) := by decide +kernel
theorem dX10_allOf_8 : decode cX10_allOf 8 = .ok (.invokevirtual 319, 3) := by decide +kernel
theorem dX10_allOf_11 : decode cX10_allOf 11 = .ok (.ireturn, 1) := by decide +kernel
theorem hd_yX10_allOf : yX10_allOf.cls = RX10 ∧ yX10_allOf.cls ≠ "java/lang/invoke/MethodHandle" ∧ yX10_allOf.cls ≠ "java/lang/invoke/VarHandle" ∧ (parseMethodDescriptor yX10_allOf.desc).map (fun d => d.parameters.length) = some 1 := by decide +kernel
def uX10_allOf : List Cond := List.cons (.code yX10_allOf cX10_allOf 2 (some .int)) (HAppend.hAppend ([.fieldLink RX10 9 "LuckyTicketModel" "world" "[I", .methodLink RX10 319 yX10_rankOf, .instanceMethod yX10_rankOf, .selects RX10 yX10_rankOf yX10_rankOf, .initialized RX10] : List Cond) (HAppend.hAppend uX10_rankOf wsX100))
theorem iX10_allOf_X10 : ∀ w ∈ wsX100, w ∈ uX10_allOf := fun _ h => (List.mem_cons_of_mem _ (List.mem_append_right _ (List.mem_append_right _ h)))
theorem guX10_allOf : GU uX10_allOf := gu_cons (gu_app (by decide +kernel) (gu_ap guX10_rankOf gws_X10))
theorem gX10_allOf__X10_rankOf_V319 : GoodIn uX10_allOf (wsV RX10 319 RX10 yX10_rankOf uX10_rankOf) := gin_V (List.mem_of_getElem? (i := 2) rfl) (List.mem_of_getElem? (i := 3) rfl) (List.mem_of_getElem? (i := 4) rfl) (List.mem_of_getElem? (i := 5) rfl) (fun _ h => (List.mem_cons_of_mem _ (List.mem_append_right _ (List.mem_append_left _ h)))) guX10_rankOf
set_option maxHeartbeats 4000000 in
set_option maxRecDepth 100000 in
theorem kX10_allOf (l : Launch) (dC : Nat → ClassId) (dI : Nat → Nat → Nat) (o0 : Nat) (x_th : Int32) (mwo : Nat) (mim : Nat) (mhi : Nat) (mlu : Nat) (mtp : Nat) (x_td : Int32) (mfv : Nat) (x_sz : Int32) (x_at : Int32) (x_fr : Int32) (x_to : Int32) (x_va : Int32) (x_fk : Int32) (x_fp : Int32) (mfr : Nat) (mwt : Nat) (x_wt : Int32) (x_op : Int32) (x_jo : Int32) (mfg : Nat) (mpl : Nat) (x_dr : Int64) (mtm : Nat) (mfa : Nat) (mqu : Nat) (mmo : Nat) (mwy : Nat) (mwn : Nat) (mma : Nat) (mwi : Nat) (mnu : Nat) (mmv : Nat) (c_wo : ClassId) (c_lu : ClassId) (w_wo : Nat → Int32) (w_lu : Nat → Int32) (ln : Int32) (bs : Int32) (tk : Int32) (lw : Int32) (li : Int32) (a1 : Int32) (b_ln : (0 : Int) ≤ ln.toInt ∧ ln.toInt ≤ 12) (b_bs : (0 : Int) ≤ bs.toInt ∧ bs.toInt ≤ 16) (b_tk : (0 : Int) ≤ tk.toInt ∧ tk.toInt ≤ 20000) (b_lw : (0 : Int) ≤ lw.toInt ∧ lw.toInt ≤ 9) (hw0 : w_wo 0 = ln) (hw1 : w_wo 1 = bs) (hw2 : w_wo 2 = tk) (hw3 : w_wo 3 = lw) (hw4 : w_wo 4 = li) (hwz : (ln.toInt = 0 ∧ bs.toInt = 0 ∧ tk.toInt = 0 ∧ lw.toInt = 0) ∨ (1 ≤ ln.toInt ∧ 2 ≤ bs.toInt ∧ 1 ≤ tk.toInt)) : Met l yX10_allOf uX10_allOf ({ frames := 1, cells := 0, slots := 0, locals := 24 }) (va_Pc [.ref o0, .int a1] (pw (dC, dI) vwCl [(o0, .inr (8, [.int x_th, .ref mwo, .ref mim, .ref mhi, .ref mlu, .ref mtp, .int x_td, .ref mfv, .int x_sz, .int x_at, .int x_fr, .int x_to, .int x_va, .int x_fk, .int x_fp, .ref mfr, .ref mwt, .int x_wt, .int x_op, .int x_jo, .ref mfg, .ref mpl, .long x_dr, .ref mtm, .ref mfa, .ref mqu, .ref mmo, .ref mwy, .ref mwn, .ref mma, .ref mwi, .ref mnu, .ref mmv])), (mwo, .inl (c_wo, 1875, .inl w_wo)), (mlu, .inl (c_lu, 20000, .inl w_lu))] [(c_wo, .int), (c_lu, .int)])) (vp_Si (fun r => ((0 : Int) ≤ r.toInt ∧ r.toInt ≤ 20000) ∧ (r.toInt ≤ tk.toInt))) 0 0 (fun _ => False) := by
  refine Met.ofW (cc := cX10_allOf) (maxL := 2) (ret := (some .int)) pn_X10 rfl ?_
  intro p e s m args below meth c s₁ B hml hv
  obtain ⟨rfl, hP, hK, hN⟩ := hv
  have hx := B.exec
  have hb := B.bytes
  have hr := B.returns
  have hts := atoms_spec (ws := uX10_allOf) B.pre
  have hown : s.vm.findClass RX10 = some m.cls := hown_of B.named rfl
  have hlocks := B.notSynchronized
  have hl := lv_entry ([.ref o0, .int a1]) (n := 2) (Nat.le_of_ble_eq_true rfl)
  rw [lg_entry_eq]
  generalize (lg_sl ([.ref o0, .int a1]) ++ List.replicate (2 - (lg_sl ([.ref o0, .int a1])).length) Slot.unset).toArray = ls at hl ⊢
  have hl : lv_has ls 2 [(0, .ref o0), (1, .int a1)] := hl
  refine lv_aload_n hx hb dX10_allOf_0 rfl (lv_at hl 0 rfl) ?_
  refine lv_iload_n hx hb dX10_allOf_1 rfl (lv_at hl 1 rfl) ?_
  refine lv_aload_n hx hb dX10_allOf_2 rfl (lv_at hl 0 rfl) ?_
  refine va_get (D := (dC, dI)) (ci := 8) (v := .ref mwo) (C := RX10) (T := TX10) (N := 33) hx hb hts iX10_allOf_X10 hown hK hP 0 rfl rfl 1 (by decide) (hts (.fieldLink RX10 9 "LuckyTicketModel" "world" "[I") (List.mem_of_getElem? (i := 1) rfl)) (fun _ h9 => h9) rfl dX10_allOf_3 ?_
  refine lv_iconst (v := 2) hx hb dX10_allOf_6 (by decide) ?_
  refine va_iald hx hb hK hP 1 0 rfl rfl (vp_in_b (by decide : (2 : Int) ≤ (2 : Int32).toInt ∧ (2 : Int32).toInt ≤ 2) (by decide) (by decide)) dX10_allOf_7 ?_
  refine lv_topi (fun z_3 e_z_3 => ?_)
  obtain rfl : tk = z_3 := (e_z_3.trans hw2).symm
  refine vp_callSi (W.runV (As := [.int a1, .int tk]) (rest := []) ⟨hx, hb, hml, hown, hts⟩ (kX10_rankOf l dC dI o0 x_th mwo mim mhi mlu mtp x_td mfv x_sz x_at x_fr x_to x_va x_fk x_fp mfr mwt x_wt x_op x_jo mfg mpl x_dr mtm mfa mqu mmo mwy mwn mma mwi mnu mmv c_wo c_lu w_wo w_lu ln bs tk lw li a1 tk b_ln b_bs b_tk b_lw b_tk (hw0) (hw1) (hw2) (hw3) (hw4) (hwz)) (cwV 2 hts gX10_allOf__X10_rankOf_V319 rfl rfl rfl hd_yX10_rankOf ⟨lel 1 1 rfl, lel 24 24 rfl⟩) ⟨pw_fb, rcv_X10 hK hP (q0 := 0) rfl, (pw_use hP hK hN [0, 1, 2] rfl [0, 1] rfl)⟩ rfl rfl hl.1 rfl (lv_room (Nat.le_of_ble_eq_true rfl)) dX10_allOf_8 ⟨lel 0 0 rfl, lel 0 0 rfl⟩) (fun r_4 h_r_4 => ?_)
  obtain ⟨b_r_4, pr_r_4⟩ := h_r_4
  have b_r_4 : (0 : Int) ≤ r_4.toInt ∧ r_4.toInt ≤ 20000 := b_r_4
  exact W.iret (v := r_4) hx hb hr (fun t ht hW => ⟨r_4, rfl, ⟨b_r_4, (by omega)⟩, ht⟩) t_nil dX10_allOf_11
theorem dX10_many_0 : decode cX10_many 0 = .ok (.aload_n 0, 1) := by decide +kernel
theorem dX10_many_1 : decode cX10_many 1 = .ok (.iload_n 1, 1) := by decide +kernel
theorem dX10_many_2 : decode cX10_many 2 = .ok (.invokevirtual 89, 3) := by decide +kernel
theorem dX10_many_5 : decode cX10_many 5 = .ok (.ifCond .eq 11, 3) := by decide +kernel
theorem dX10_many_8 : decode cX10_many 8 = .ok (.aload_n 0, 1) := by decide +kernel
theorem dX10_many_9 : decode cX10_many 9 = .ok (.iload_n 1, 1) := by decide +kernel
theorem dX10_many_10 : decode cX10_many 10 = .ok (.invokevirtual 322, 3) := by decide +kernel
theorem dX10_many_13 : decode cX10_many 13 = .ok (.goto 5, 3) := by decide +kernel
theorem dX10_many_16 : decode cX10_many 16 = .ok (.bipush (-2), 2) := by decide +kernel
theorem dX10_many_18 : decode cX10_many 18 = .ok (.ireturn, 1) := by decide +kernel
theorem hd_yX10_many : yX10_many.cls = RX10 ∧ yX10_many.cls ≠ "java/lang/invoke/MethodHandle" ∧ yX10_many.cls ≠ "java/lang/invoke/VarHandle" ∧ (parseMethodDescriptor yX10_many.desc).map (fun d => d.parameters.length) = some 1 := by decide +kernel
def uX10_many : List Cond := List.cons (.code yX10_many cX10_many 2 (some .int)) (HAppend.hAppend ([.methodLink RX10 89 yX10_isLaw, .instanceMethod yX10_isLaw, .selects RX10 yX10_isLaw yX10_isLaw, .initialized RX10, .methodLink RX10 322 yX10_allOf, .instanceMethod yX10_allOf, .selects RX10 yX10_allOf yX10_allOf] : List Cond) (HAppend.hAppend uX10_isLaw uX10_allOf))
theorem guX10_many : GU uX10_many := gu_cons (gu_app (by decide +kernel) (gu_ap guX10_isLaw guX10_allOf))
theorem gX10_many__X10_isLaw_V89 : GoodIn uX10_many (wsV RX10 89 RX10 yX10_isLaw uX10_isLaw) := gin_V (List.mem_of_getElem? (i := 1) rfl) (List.mem_of_getElem? (i := 2) rfl) (List.mem_of_getElem? (i := 3) rfl) (List.mem_of_getElem? (i := 4) rfl) (fun _ h => (List.mem_cons_of_mem _ (List.mem_append_right _ (List.mem_append_left _ h)))) guX10_isLaw
theorem gX10_many__X10_allOf_V322 : GoodIn uX10_many (wsV RX10 322 RX10 yX10_allOf uX10_allOf) := gin_V (List.mem_of_getElem? (i := 5) rfl) (List.mem_of_getElem? (i := 6) rfl) (List.mem_of_getElem? (i := 7) rfl) (List.mem_of_getElem? (i := 4) rfl) (fun _ h => (List.mem_cons_of_mem _ (List.mem_append_right _ (List.mem_append_right _ h)))) guX10_allOf
set_option maxHeartbeats 4000000 in
set_option maxRecDepth 100000 in
theorem kX10_many (l : Launch) (dC : Nat → ClassId) (dI : Nat → Nat → Nat) (o0 : Nat) (x_th : Int32) (mwo : Nat) (mim : Nat) (mhi : Nat) (mlu : Nat) (mtp : Nat) (x_td : Int32) (mfv : Nat) (x_sz : Int32) (x_at : Int32) (x_fr : Int32) (x_to : Int32) (x_va : Int32) (x_fk : Int32) (x_fp : Int32) (mfr : Nat) (mwt : Nat) (x_wt : Int32) (x_op : Int32) (x_jo : Int32) (mfg : Nat) (mpl : Nat) (x_dr : Int64) (mtm : Nat) (mfa : Nat) (mqu : Nat) (mmo : Nat) (mwy : Nat) (mwn : Nat) (mma : Nat) (mwi : Nat) (mnu : Nat) (mmv : Nat) (c_wo : ClassId) (c_lu : ClassId) (w_wo : Nat → Int32) (w_lu : Nat → Int32) (ln : Int32) (bs : Int32) (tk : Int32) (lw : Int32) (li : Int32) (a1 : Int32) (b_ln : (0 : Int) ≤ ln.toInt ∧ ln.toInt ≤ 12) (b_bs : (0 : Int) ≤ bs.toInt ∧ bs.toInt ≤ 16) (b_tk : (0 : Int) ≤ tk.toInt ∧ tk.toInt ≤ 20000) (b_lw : (0 : Int) ≤ lw.toInt ∧ lw.toInt ≤ 9) (hw0 : w_wo 0 = ln) (hw1 : w_wo 1 = bs) (hw2 : w_wo 2 = tk) (hw3 : w_wo 3 = lw) (hw4 : w_wo 4 = li) (hwz : (ln.toInt = 0 ∧ bs.toInt = 0 ∧ tk.toInt = 0 ∧ lw.toInt = 0) ∨ (1 ≤ ln.toInt ∧ 2 ≤ bs.toInt ∧ 1 ≤ tk.toInt)) : Met l yX10_many uX10_many ({ frames := 2, cells := 0, slots := 0, locals := 46 }) (va_Pc [.ref o0, .int a1] (pw (dC, dI) vwCl [(o0, .inr (8, [.int x_th, .ref mwo, .ref mim, .ref mhi, .ref mlu, .ref mtp, .int x_td, .ref mfv, .int x_sz, .int x_at, .int x_fr, .int x_to, .int x_va, .int x_fk, .int x_fp, .ref mfr, .ref mwt, .int x_wt, .int x_op, .int x_jo, .ref mfg, .ref mpl, .long x_dr, .ref mtm, .ref mfa, .ref mqu, .ref mmo, .ref mwy, .ref mwn, .ref mma, .ref mwi, .ref mnu, .ref mmv])), (mwo, .inl (c_wo, 1875, .inl w_wo)), (mlu, .inl (c_lu, 20000, .inl w_lu))] [(c_wo, .int), (c_lu, .int)])) (vp_Si (fun r => ((-2 : Int) ≤ r.toInt ∧ r.toInt ≤ 20000))) 0 0 (fun _ => False) := by
  refine Met.ofW (cc := cX10_many) (maxL := 2) (ret := (some .int)) pn_X10 rfl ?_
  intro p e s m args below meth c s₁ B hml hv
  obtain ⟨rfl, hP, hK, hN⟩ := hv
  have hx := B.exec
  have hb := B.bytes
  have hr := B.returns
  have hts := atoms_spec (ws := uX10_many) B.pre
  have hown : s.vm.findClass RX10 = some m.cls := hown_of B.named rfl
  have hlocks := B.notSynchronized
  have hl := lv_entry ([.ref o0, .int a1]) (n := 2) (Nat.le_of_ble_eq_true rfl)
  rw [lg_entry_eq]
  generalize (lg_sl ([.ref o0, .int a1]) ++ List.replicate (2 - (lg_sl ([.ref o0, .int a1])).length) Slot.unset).toArray = ls at hl ⊢
  have hl : lv_has ls 2 [(0, .ref o0), (1, .int a1)] := hl
  refine lv_aload_n hx hb dX10_many_0 rfl (lv_at hl 0 rfl) ?_
  refine lv_iload_n hx hb dX10_many_1 rfl (lv_at hl 1 rfl) ?_
  refine vp_callSi (W.runV (As := [.int a1]) (rest := []) ⟨hx, hb, hml, hown, hts⟩ (kX10_isLaw l dC dI o0 x_th mwo mim mhi mlu mtp x_td mfv x_sz x_at x_fr x_to x_va x_fk x_fp mfr mwt x_wt x_op x_jo mfg mpl x_dr mtm mfa mqu mmo mwy mwn mma mwi mnu mmv c_wo w_wo ln bs tk lw li a1 b_ln b_bs b_tk b_lw (hw0) (hw1) (hw2) (hw3) (hw4) (hwz)) (cwV 1 hts gX10_many__X10_isLaw_V89 rfl rfl rfl hd_yX10_isLaw ⟨lel 2 2 rfl, lel 46 46 rfl⟩) ⟨pw_fb, rcv_X10 hK hP (q0 := 0) rfl, (pw_use hP hK hN [0, 1] rfl [0] rfl)⟩ rfl rfl hl.1 rfl (lv_room (Nat.le_of_ble_eq_true rfl)) dX10_many_2 ⟨lel 0 0 rfl, lel 0 0 rfl⟩) (fun r_5 h_r_5 => ?_)
  obtain ⟨b_r_5, nz_r_5⟩ := h_r_5
  have b_r_5 : (0 : Int) ≤ r_5.toInt ∧ r_5.toInt ≤ 1 := b_r_5
  refine lv_if_eq (tgt := 16) hx hb dX10_many_5 (by decide) (fun c_6 => ?_) (fun c_6 => ?_)
  ·
    have n_c_6 : (r_5.toInt : Int) = 0 := c_eq rfl (by decide) c_6
    have b_r_5 : (0 : Int) ≤ r_5.toInt ∧ r_5.toInt ≤ 0 := r_eq1 b_r_5 (by decide : (0 : Int) ≤ (0 : Int32).toInt ∧ (0 : Int32).toInt ≤ 0) n_c_6 (by decide)
    refine lv_bipush (v := (-2)) hx hb dX10_many_16 (by decide) ?_
    exact W.iret (v := (-2)) hx hb hr (fun t ht hW => ⟨(-2), rfl, (rg_w (by decide : (-2 : Int) ≤ ((-2) : Int32).toInt ∧ ((-2) : Int32).toInt ≤ -2) (by decide) (by decide)), ht⟩) t_nil dX10_many_18
  ·
    have n_c_6 : (r_5.toInt : Int) ≠ 0 := c_ne rfl (by decide) c_6
    have b_r_5 : (1 : Int) ≤ r_5.toInt ∧ r_5.toInt ≤ 1 := r_ne1 b_r_5 (by decide : (0 : Int) ≤ (0 : Int32).toInt ∧ (0 : Int32).toInt ≤ 0) n_c_6 (by decide)
    obtain ⟨b_a1, g_7⟩ := nz_r_5 c_6
    refine lv_aload_n hx hb dX10_many_8 rfl (lv_at hl 0 rfl) ?_
    refine lv_iload_n hx hb dX10_many_9 rfl (lv_at hl 1 rfl) ?_
    refine vp_callSi (W.runV (As := [.int a1]) (rest := []) ⟨hx, hb, hml, hown, hts⟩ (kX10_allOf l dC dI o0 x_th mwo mim mhi mlu mtp x_td mfv x_sz x_at x_fr x_to x_va x_fk x_fp mfr mwt x_wt x_op x_jo mfg mpl x_dr mtm mfa mqu mmo mwy mwn mma mwi mnu mmv c_wo c_lu w_wo w_lu ln bs tk lw li a1 b_ln b_bs b_tk b_lw (hw0) (hw1) (hw2) (hw3) (hw4) (hwz)) (cwV 1 hts gX10_many__X10_allOf_V322 rfl rfl rfl hd_yX10_allOf ⟨lel 2 2 rfl, lel 45 46 rfl⟩) ⟨pw_fb, rcv_X10 hK hP (q0 := 0) rfl, (pw_use hP hK hN [0, 1, 2] rfl [0, 1] rfl)⟩ rfl rfl hl.1 rfl (lv_room (Nat.le_of_ble_eq_true rfl)) dX10_many_10 ⟨lel 0 0 rfl, lel 0 0 rfl⟩) (fun r_8 h_r_8 => ?_)
    obtain ⟨b_r_8, pr_r_8⟩ := h_r_8
    have b_r_8 : (0 : Int) ≤ r_8.toInt ∧ r_8.toInt ≤ 20000 := b_r_8
    refine lv_goto (tgt := 18) hx hb dX10_many_13 (by decide) ?_
    exact W.iret (v := r_8) hx hb hr (fun t ht hW => ⟨r_8, rfl, (rg_w b_r_8 (by decide) (by decide)), ht⟩) t_nil dX10_many_18
theorem dX10_rank_0 : decode cX10_rank 0 = .ok (.aload_n 0, 1) := by decide +kernel
theorem dX10_rank_1 : decode cX10_rank 1 = .ok (.iload_n 1, 1) := by decide +kernel
theorem dX10_rank_2 : decode cX10_rank 2 = .ok (.invokevirtual 89, 3) := by decide +kernel
theorem dX10_rank_5 : decode cX10_rank 5 = .ok (.ifCond .eq 28, 3) := by decide +kernel
theorem dX10_rank_8 : decode cX10_rank 8 = .ok (.iload_n 2, 1) := by decide +kernel
theorem dX10_rank_9 : decode cX10_rank 9 = .ok (.i2l, 1) := by decide +kernel
theorem dX10_rank_10 : decode cX10_rank 10 = .ok (.lconst 0, 1) := by decide +kernel
theorem dX10_rank_11 : decode cX10_rank 11 = .ok (.aload_n 0, 1) := by decide +kernel
theorem dX10_rank_12 : decode cX10_rank 12 = .ok (.getfield 9, 3) := by decide +kernel
theorem dX10_rank_15 : decode cX10_rank 15 = .ok (.iconst 2, 1) := by decide +kernel
theorem dX10_rank_16 : decode cX10_rank 16 = .ok (.iaload, 1) := by decide +kernel
theorem dX10_rank_17 : decode cX10_rank 17 = .ok (.i2l, 1) := by decide +kernel
theorem dX10_rank_18 : decode cX10_rank 18 = .ok (.invokestatic 82, 3) := by decide +kernel
theorem dX10_rank_21 : decode cX10_rank 21 = .ok (.ifCond .eq 12, 3) := by decide +kernel
theorem dX10_rank_24 : decode cX10_rank 24 = .ok (.aload_n 0, 1) := by decide +kernel
theorem dX10_rank_25 : decode cX10_rank 25 = .ok (.iload_n 1, 1) := by decide +kernel
theorem dX10_rank_26 : decode cX10_rank 26 = .ok (.iload_n 2, 1) := by decide +kernel
theorem dX10_rank_27 : decode cX10_rank 27 = .ok (.invokevirtual 319, 3) := by decide +kernel
theorem dX10_rank_30 : decode cX10_rank 30 = .ok (.goto 5, 3) := by decide +kernel
theorem dX10_rank_33 : decode cX10_rank 33 = .ok (.bipush (-2), 2) := by decide +kernel
theorem dX10_rank_35 : decode cX10_rank 35 = .ok (.ireturn, 1) := by decide +kernel
theorem hd_yX10_rank : yX10_rank.cls = RX10 ∧ yX10_rank.cls ≠ "java/lang/invoke/MethodHandle" ∧ yX10_rank.cls ≠ "java/lang/invoke/VarHandle" ∧ (parseMethodDescriptor yX10_rank.desc).map (fun d => d.parameters.length) = some 2 := by decide +kernel
def uX10_rank : List Cond := List.cons (.code yX10_rank cX10_rank 3 (some .int)) (HAppend.hAppend ([.methodLink RX10 89 yX10_isLaw, .instanceMethod yX10_isLaw, .selects RX10 yX10_isLaw yX10_isLaw, .initialized RX10, .fieldLink RX10 9 "LuckyTicketModel" "world" "[I", .methodLink RX10 82 yX10_in, .static yX10_in, .methodLink RX10 319 yX10_rankOf, .instanceMethod yX10_rankOf, .selects RX10 yX10_rankOf yX10_rankOf] : List Cond) (HAppend.hAppend uX10_isLaw (HAppend.hAppend uX10_in (HAppend.hAppend uX10_rankOf wsX100))))
theorem iX10_rank_X10 : ∀ w ∈ wsX100, w ∈ uX10_rank := fun _ h => (List.mem_cons_of_mem _ (List.mem_append_right _ (List.mem_append_right _ (List.mem_append_right _ (List.mem_append_right _ h)))))
theorem guX10_rank : GU uX10_rank := gu_cons (gu_app (by decide +kernel) (gu_ap guX10_isLaw (gu_ap guX10_in (gu_ap guX10_rankOf gws_X10))))
theorem gX10_rank__X10_isLaw_V89 : GoodIn uX10_rank (wsV RX10 89 RX10 yX10_isLaw uX10_isLaw) := gin_V (List.mem_of_getElem? (i := 1) rfl) (List.mem_of_getElem? (i := 2) rfl) (List.mem_of_getElem? (i := 3) rfl) (List.mem_of_getElem? (i := 4) rfl) (fun _ h => (List.mem_cons_of_mem _ (List.mem_append_right _ (List.mem_append_left _ h)))) guX10_isLaw
theorem gX10_rank__X10_in_S82 : GoodIn uX10_rank (va_wsS RX10 82 yX10_in uX10_in) := gin_S (List.mem_of_getElem? (i := 6) rfl) (List.mem_of_getElem? (i := 7) rfl) (List.mem_of_getElem? (i := 4) rfl) (fun _ h => (List.mem_cons_of_mem _ (List.mem_append_right _ (List.mem_append_right _ (List.mem_append_left _ h))))) guX10_in
theorem gX10_rank__X10_rankOf_V319 : GoodIn uX10_rank (wsV RX10 319 RX10 yX10_rankOf uX10_rankOf) := gin_V (List.mem_of_getElem? (i := 8) rfl) (List.mem_of_getElem? (i := 9) rfl) (List.mem_of_getElem? (i := 10) rfl) (List.mem_of_getElem? (i := 4) rfl) (fun _ h => (List.mem_cons_of_mem _ (List.mem_append_right _ (List.mem_append_right _ (List.mem_append_right _ (List.mem_append_left _ h)))))) guX10_rankOf
set_option maxHeartbeats 4000000 in
set_option maxRecDepth 100000 in
theorem kX10_rank (l : Launch) (dC : Nat → ClassId) (dI : Nat → Nat → Nat) (o0 : Nat) (x_th : Int32) (mwo : Nat) (mim : Nat) (mhi : Nat) (mlu : Nat) (mtp : Nat) (x_td : Int32) (mfv : Nat) (x_sz : Int32) (x_at : Int32) (x_fr : Int32) (x_to : Int32) (x_va : Int32) (x_fk : Int32) (x_fp : Int32) (mfr : Nat) (mwt : Nat) (x_wt : Int32) (x_op : Int32) (x_jo : Int32) (mfg : Nat) (mpl : Nat) (x_dr : Int64) (mtm : Nat) (mfa : Nat) (mqu : Nat) (mmo : Nat) (mwy : Nat) (mwn : Nat) (mma : Nat) (mwi : Nat) (mnu : Nat) (mmv : Nat) (c_wo : ClassId) (c_lu : ClassId) (w_wo : Nat → Int32) (w_lu : Nat → Int32) (ln : Int32) (bs : Int32) (tk : Int32) (lw : Int32) (li : Int32) (a1 : Int32) (a2 : Int32) (b_ln : (0 : Int) ≤ ln.toInt ∧ ln.toInt ≤ 12) (b_bs : (0 : Int) ≤ bs.toInt ∧ bs.toInt ≤ 16) (b_tk : (0 : Int) ≤ tk.toInt ∧ tk.toInt ≤ 20000) (b_lw : (0 : Int) ≤ lw.toInt ∧ lw.toInt ≤ 9) (hw0 : w_wo 0 = ln) (hw1 : w_wo 1 = bs) (hw2 : w_wo 2 = tk) (hw3 : w_wo 3 = lw) (hw4 : w_wo 4 = li) (hwz : (ln.toInt = 0 ∧ bs.toInt = 0 ∧ tk.toInt = 0 ∧ lw.toInt = 0) ∨ (1 ≤ ln.toInt ∧ 2 ≤ bs.toInt ∧ 1 ≤ tk.toInt)) : Met l yX10_rank uX10_rank ({ frames := 2, cells := 0, slots := 0, locals := 46 }) (va_Pc [.ref o0, .int a1, .int a2] (pw (dC, dI) vwCl [(o0, .inr (8, [.int x_th, .ref mwo, .ref mim, .ref mhi, .ref mlu, .ref mtp, .int x_td, .ref mfv, .int x_sz, .int x_at, .int x_fr, .int x_to, .int x_va, .int x_fk, .int x_fp, .ref mfr, .ref mwt, .int x_wt, .int x_op, .int x_jo, .ref mfg, .ref mpl, .long x_dr, .ref mtm, .ref mfa, .ref mqu, .ref mmo, .ref mwy, .ref mwn, .ref mma, .ref mwi, .ref mnu, .ref mmv])), (mwo, .inl (c_wo, 1875, .inl w_wo)), (mlu, .inl (c_lu, 20000, .inl w_lu))] [(c_wo, .int), (c_lu, .int)])) (vp_Si (fun r => ((-2 : Int) ≤ r.toInt ∧ r.toInt ≤ 20000))) 0 0 (fun _ => False) := by
  refine Met.ofW (cc := cX10_rank) (maxL := 3) (ret := (some .int)) pn_X10 rfl ?_
  intro p e s m args below meth c s₁ B hml hv
  obtain ⟨rfl, hP, hK, hN⟩ := hv
  have hx := B.exec
  have hb := B.bytes
  have hr := B.returns
  have hts := atoms_spec (ws := uX10_rank) B.pre
  have hown : s.vm.findClass RX10 = some m.cls := hown_of B.named rfl
  have hlocks := B.notSynchronized
  have hl := lv_entry ([.ref o0, .int a1, .int a2]) (n := 3) (Nat.le_of_ble_eq_true rfl)
  rw [lg_entry_eq]
  generalize (lg_sl ([.ref o0, .int a1, .int a2]) ++ List.replicate (3 - (lg_sl ([.ref o0, .int a1, .int a2])).length) Slot.unset).toArray = ls at hl ⊢
  have hl : lv_has ls 3 [(0, .ref o0), (1, .int a1), (2, .int a2)] := hl
  refine lv_aload_n hx hb dX10_rank_0 rfl (lv_at hl 0 rfl) ?_
  refine lv_iload_n hx hb dX10_rank_1 rfl (lv_at hl 1 rfl) ?_
  refine vp_callSi (W.runV (As := [.int a1]) (rest := []) ⟨hx, hb, hml, hown, hts⟩ (kX10_isLaw l dC dI o0 x_th mwo mim mhi mlu mtp x_td mfv x_sz x_at x_fr x_to x_va x_fk x_fp mfr mwt x_wt x_op x_jo mfg mpl x_dr mtm mfa mqu mmo mwy mwn mma mwi mnu mmv c_wo w_wo ln bs tk lw li a1 b_ln b_bs b_tk b_lw (hw0) (hw1) (hw2) (hw3) (hw4) (hwz)) (cwV 1 hts gX10_rank__X10_isLaw_V89 rfl rfl rfl hd_yX10_isLaw ⟨lel 2 2 rfl, lel 46 46 rfl⟩) ⟨pw_fb, rcv_X10 hK hP (q0 := 0) rfl, (pw_use hP hK hN [0, 1] rfl [0] rfl)⟩ rfl rfl hl.1 rfl (lv_room (Nat.le_of_ble_eq_true rfl)) dX10_rank_2 ⟨lel 0 0 rfl, lel 0 0 rfl⟩) (fun r_11 h_r_11 => ?_)
  obtain ⟨b_r_11, nz_r_11⟩ := h_r_11
  have b_r_11 : (0 : Int) ≤ r_11.toInt ∧ r_11.toInt ≤ 1 := b_r_11
  refine lv_if_eq (tgt := 33) hx hb dX10_rank_5 (by decide) (fun c_12 => ?_) (fun c_12 => ?_)
  ·
    have n_c_12 : (r_11.toInt : Int) = 0 := c_eq rfl (by decide) c_12
    have b_r_11 : (0 : Int) ≤ r_11.toInt ∧ r_11.toInt ≤ 0 := r_eq1 b_r_11 (by decide : (0 : Int) ≤ (0 : Int32).toInt ∧ (0 : Int32).toInt ≤ 0) n_c_12 (by decide)
    refine lv_bipush (v := (-2)) hx hb dX10_rank_33 (by decide) ?_
    exact W.iret (v := (-2)) hx hb hr (fun t ht hW => ⟨(-2), rfl, (rg_w (by decide : (-2 : Int) ≤ ((-2) : Int32).toInt ∧ ((-2) : Int32).toInt ≤ -2) (by decide) (by decide)), ht⟩) t_nil dX10_rank_35
  ·
    have n_c_12 : (r_11.toInt : Int) ≠ 0 := c_ne rfl (by decide) c_12
    have b_r_11 : (1 : Int) ≤ r_11.toInt ∧ r_11.toInt ≤ 1 := r_ne1 b_r_11 (by decide : (0 : Int) ≤ (0 : Int32).toInt ∧ (0 : Int32).toInt ≤ 0) n_c_12 (by decide)
    obtain ⟨b_a1, g_13⟩ := nz_r_11 c_12
    refine lv_iload_n hx hb dX10_rank_8 rfl (lv_at hl 2 rfl) ?_
    obtain ⟨z_14, e_z_14⟩ : ∃ y : Int64, y = a2.toInt64 := ⟨_, rfl⟩
    refine lv_i2l (v := z_14) hx hb dX10_rank_9 e_z_14.symm ?_
    obtain ⟨q_z_14, b_z_14⟩ := ti_i2l e_z_14 (ti_rng a2)
    refine lv_lconst (v := 0) hx hb dX10_rank_10 (by decide) ?_
    refine lv_aload_n hx hb dX10_rank_11 rfl (lv_at hl 0 rfl) ?_
    refine va_get (D := (dC, dI)) (ci := 8) (v := .ref mwo) (C := RX10) (T := TX10) (N := 33) hx hb hts iX10_rank_X10 hown hK hP 0 rfl rfl 1 (by decide) (hts (.fieldLink RX10 9 "LuckyTicketModel" "world" "[I") (List.mem_of_getElem? (i := 5) rfl)) (fun _ h9 => h9) rfl dX10_rank_12 ?_
    refine lv_iconst (v := 2) hx hb dX10_rank_15 (by decide) ?_
    refine va_iald hx hb hK hP 1 0 rfl rfl (vp_in_b (by decide : (2 : Int) ≤ (2 : Int32).toInt ∧ (2 : Int32).toInt ≤ 2) (by decide) (by decide)) dX10_rank_16 ?_
    refine lv_topi (fun z_15 e_z_15 => ?_)
    obtain rfl : tk = z_15 := (e_z_15.trans hw2).symm
    obtain ⟨z_16, e_z_16⟩ : ∃ y : Int64, y = tk.toInt64 := ⟨_, rfl⟩
    refine lv_i2l (v := z_16) hx hb dX10_rank_17 e_z_16.symm ?_
    obtain ⟨q_z_16, b_z_16⟩ := ti_i2l e_z_16 b_tk
    refine vp_callSi (W.runS (As := [.long z_14, .long 0, .long z_16]) (rest := []) ⟨hx, hb, hml, hown, hts⟩ (kX10_in l dC dI z_14 0 z_16 ) (va_cwS 3 hts gX10_rank__X10_in_S82 rfl rfl rfl hd_yX10_in.2 ⟨lel 1 2 rfl, lel 25 46 rfl⟩) ⟨pn_fb, pn_use⟩ rfl rfl hl.1 rfl (lv_room (Nat.le_of_ble_eq_true rfl)) dX10_rank_18 ⟨lel 0 0 rfl, lel 0 0 rfl⟩) (fun r_17 h_r_17 => ?_)
    obtain ⟨b_r_17, nz_r_17⟩ := h_r_17
    have b_r_17 : (0 : Int) ≤ r_17.toInt ∧ r_17.toInt ≤ 1 := b_r_17
    refine lv_if_eq (tgt := 33) hx hb dX10_rank_21 (by decide) (fun c_18 => ?_) (fun c_18 => ?_)
    ·
      have n_c_18 : (r_17.toInt : Int) = 0 := c_eq rfl (by decide) c_18
      have b_r_17 : (0 : Int) ≤ r_17.toInt ∧ r_17.toInt ≤ 0 := r_eq1 b_r_17 (by decide : (0 : Int) ≤ (0 : Int32).toInt ∧ (0 : Int32).toInt ≤ 0) n_c_18 (by decide)
      refine lv_bipush (v := (-2)) hx hb dX10_rank_33 (by decide) ?_
      exact W.iret (v := (-2)) hx hb hr (fun t ht hW => ⟨(-2), rfl, (rg_w (by decide : (-2 : Int) ≤ ((-2) : Int32).toInt ∧ ((-2) : Int32).toInt ≤ -2) (by decide) (by decide)), ht⟩) t_nil dX10_rank_35
    ·
      have n_c_18 : (r_17.toInt : Int) ≠ 0 := c_ne rfl (by decide) c_18
      have b_r_17 : (1 : Int) ≤ r_17.toInt ∧ r_17.toInt ≤ 1 := r_ne1 b_r_17 (by decide : (0 : Int) ≤ (0 : Int32).toInt ∧ (0 : Int32).toInt ≤ 0) n_c_18 (by decide)
      have g_19 := nz_r_17 c_18
      have lt0_g_19 := (by decide : (0 : Int64).toInt = 0)
      have b_z_14 : (0 : Int) ≤ z_14.toInt ∧ z_14.toInt ≤ 20000 := by
        have q0 := b_z_14
        have q1 := (by decide : (0 : Int) ≤ (0 : Int64).toInt ∧ (0 : Int64).toInt ≤ 0)
        have q2 := b_z_16
        omega
      have b_a2 : (0 : Int) ≤ a2.toInt ∧ a2.toInt ≤ 20000 := by
        have q0 := b_z_14; have q1 := q_z_14; have q2 := (ti_rng a2); omega
      refine lv_aload_n hx hb dX10_rank_24 rfl (lv_at hl 0 rfl) ?_
      refine lv_iload_n hx hb dX10_rank_25 rfl (lv_at hl 1 rfl) ?_
      refine lv_iload_n hx hb dX10_rank_26 rfl (lv_at hl 2 rfl) ?_
      refine vp_callSi (W.runV (As := [.int a1, .int a2]) (rest := []) ⟨hx, hb, hml, hown, hts⟩ (kX10_rankOf l dC dI o0 x_th mwo mim mhi mlu mtp x_td mfv x_sz x_at x_fr x_to x_va x_fk x_fp mfr mwt x_wt x_op x_jo mfg mpl x_dr mtm mfa mqu mmo mwy mwn mma mwi mnu mmv c_wo c_lu w_wo w_lu ln bs tk lw li a1 a2 b_ln b_bs b_tk b_lw b_a2 (hw0) (hw1) (hw2) (hw3) (hw4) (hwz)) (cwV 2 hts gX10_rank__X10_rankOf_V319 rfl rfl rfl hd_yX10_rankOf ⟨lel 1 2 rfl, lel 24 46 rfl⟩) ⟨pw_fb, rcv_X10 hK hP (q0 := 0) rfl, (pw_use hP hK hN [0, 1, 2] rfl [0, 1] rfl)⟩ rfl rfl hl.1 rfl (lv_room (Nat.le_of_ble_eq_true rfl)) dX10_rank_27 ⟨lel 0 0 rfl, lel 0 0 rfl⟩) (fun r_20 h_r_20 => ?_)
      obtain ⟨b_r_20, pr_r_20⟩ := h_r_20
      have b_r_20 : (0 : Int) ≤ r_20.toInt ∧ r_20.toInt ≤ 20000 := b_r_20
      refine lv_goto (tgt := 35) hx hb dX10_rank_30 (by decide) ?_
      exact W.iret (v := r_20) hx hb hr (fun t ht hW => ⟨r_20, rfl, (rg_w b_r_20 (by decide) (by decide)), ht⟩) t_nil dX10_rank_35
theorem dX10_nextOf_0 : decode cX10_nextOf 0 = .ok (.iload_n 2, 1) := by decide +kernel
theorem dX10_nextOf_1 : decode cX10_nextOf 1 = .ok (.istore_n 3, 1) := by decide +kernel
theorem dX10_nextOf_2 : decode cX10_nextOf 2 = .ok (.iload_n 3, 1) := by decide +kernel
theorem dX10_nextOf_3 : decode cX10_nextOf 3 = .ok (.aload_n 0, 1) := by decide +kernel
theorem dX10_nextOf_4 : decode cX10_nextOf 4 = .ok (.getfield 9, 3) := by decide +kernel
theorem dX10_nextOf_7 : decode cX10_nextOf 7 = .ok (.iconst 2, 1) := by decide +kernel
theorem dX10_nextOf_8 : decode cX10_nextOf 8 = .ok (.iaload, 1) := by decide +kernel
theorem dX10_nextOf_9 : decode cX10_nextOf 9 = .ok (.if_icmp .ge 18, 3) := by decide +kernel
theorem dX10_nextOf_12 : decode cX10_nextOf 12 = .ok (.aload_n 0, 1) := by decide +kernel
theorem dX10_nextOf_13 : decode cX10_nextOf 13 = .ok (.iload_n 1, 1) := by decide +kernel
theorem dX10_nextOf_14 : decode cX10_nextOf 14 = .ok (.iload_n 3, 1) := by decide +kernel
theorem dX10_nextOf_15 : decode cX10_nextOf 15 = .ok (.invokevirtual 316, 3) := by decide +kernel
theorem dX10_nextOf_18 : decode cX10_nextOf 18 = .ok (.ifCond .ne 9, 3) := by decide +kernel
theorem dX10_nextOf_21 : decode cX10_nextOf 21 = .ok (.iinc 3 1, 3) := by decide +kernel
theorem dX10_nextOf_24 : decode cX10_nextOf 24 = .ok (.goto (-22), 3) := by decide +kernel
theorem dX10_nextOf_27 : decode cX10_nextOf 27 = .ok (.iload_n 3, 1) := by decide +kernel
theorem dX10_nextOf_28 : decode cX10_nextOf 28 = .ok (.aload_n 0, 1) := by decide +kernel
theorem dX10_nextOf_29 : decode cX10_nextOf 29 = .ok (.getfield 9, 3) := by decide +kernel
theorem dX10_nextOf_32 : decode cX10_nextOf 32 = .ok (.iconst 2, 1) := by decide +kernel
theorem dX10_nextOf_33 : decode cX10_nextOf 33 = .ok (.iaload, 1) := by decide +kernel
theorem dX10_nextOf_34 : decode cX10_nextOf 34 = .ok (.if_icmp .ge 7, 3) := by decide +kernel
theorem dX10_nextOf_37 : decode cX10_nextOf 37 = .ok (.iload_n 3, 1) := by decide +kernel
theorem dX10_nextOf_38 : decode cX10_nextOf 38 = .ok (.goto 4, 3) := by decide +kernel
theorem dX10_nextOf_41 : decode cX10_nextOf 41 = .ok (.iconst (-1), 1) := by decide +kernel
theorem dX10_nextOf_42 : decode cX10_nextOf 42 = .ok (.ireturn, 1) := by decide +kernel
theorem hd_yX10_nextOf : yX10_nextOf.cls = RX10 ∧ yX10_nextOf.cls ≠ "java/lang/invoke/MethodHandle" ∧ yX10_nextOf.cls ≠ "java/lang/invoke/VarHandle" ∧ (parseMethodDescriptor yX10_nextOf.desc).map (fun d => d.parameters.length) = some 2 := by decide +kernel
def uX10_nextOf : List Cond := List.cons (.code yX10_nextOf cX10_nextOf 4 (some .int)) (HAppend.hAppend ([.fieldLink RX10 9 "LuckyTicketModel" "world" "[I", .methodLink RX10 316 yX10_isLucky, .instanceMethod yX10_isLucky, .selects RX10 yX10_isLucky yX10_isLucky, .initialized RX10] : List Cond) (HAppend.hAppend uX10_isLucky wsX100))
theorem iX10_nextOf_X10 : ∀ w ∈ wsX100, w ∈ uX10_nextOf := fun _ h => (List.mem_cons_of_mem _ (List.mem_append_right _ (List.mem_append_right _ h)))
theorem guX10_nextOf : GU uX10_nextOf := gu_cons (gu_app (by decide +kernel) (gu_ap guX10_isLucky gws_X10))
theorem gX10_nextOf__X10_isLucky_V316 : GoodIn uX10_nextOf (wsV RX10 316 RX10 yX10_isLucky uX10_isLucky) := gin_V (List.mem_of_getElem? (i := 2) rfl) (List.mem_of_getElem? (i := 3) rfl) (List.mem_of_getElem? (i := 4) rfl) (List.mem_of_getElem? (i := 5) rfl) (fun _ h => (List.mem_cons_of_mem _ (List.mem_append_right _ (List.mem_append_left _ h)))) guX10_isLucky
set_option maxHeartbeats 4000000 in
set_option maxRecDepth 100000 in
theorem kX10_nextOf (l : Launch) (dC : Nat → ClassId) (dI : Nat → Nat → Nat) (o0 : Nat) (x_th : Int32) (mwo : Nat) (mim : Nat) (mhi : Nat) (mlu : Nat) (mtp : Nat) (x_td : Int32) (mfv : Nat) (x_sz : Int32) (x_at : Int32) (x_fr : Int32) (x_to : Int32) (x_va : Int32) (x_fk : Int32) (x_fp : Int32) (mfr : Nat) (mwt : Nat) (x_wt : Int32) (x_op : Int32) (x_jo : Int32) (mfg : Nat) (mpl : Nat) (x_dr : Int64) (mtm : Nat) (mfa : Nat) (mqu : Nat) (mmo : Nat) (mwy : Nat) (mwn : Nat) (mma : Nat) (mwi : Nat) (mnu : Nat) (mmv : Nat) (c_wo : ClassId) (c_lu : ClassId) (w_wo : Nat → Int32) (w_lu : Nat → Int32) (ln : Int32) (bs : Int32) (tk : Int32) (lw : Int32) (li : Int32) (a1 : Int32) (a2 : Int32) (b_ln : (0 : Int) ≤ ln.toInt ∧ ln.toInt ≤ 12) (b_bs : (0 : Int) ≤ bs.toInt ∧ bs.toInt ≤ 16) (b_tk : (0 : Int) ≤ tk.toInt ∧ tk.toInt ≤ 20000) (b_lw : (0 : Int) ≤ lw.toInt ∧ lw.toInt ≤ 9) (b_a2 : (0 : Int) ≤ a2.toInt ∧ a2.toInt ≤ 20000) (hw0 : w_wo 0 = ln) (hw1 : w_wo 1 = bs) (hw2 : w_wo 2 = tk) (hw3 : w_wo 3 = lw) (hw4 : w_wo 4 = li) (hwz : (ln.toInt = 0 ∧ bs.toInt = 0 ∧ tk.toInt = 0 ∧ lw.toInt = 0) ∨ (1 ≤ ln.toInt ∧ 2 ≤ bs.toInt ∧ 1 ≤ tk.toInt)) : Met l yX10_nextOf uX10_nextOf ({ frames := 1, cells := 0, slots := 0, locals := 22 }) (va_Pc [.ref o0, .int a1, .int a2] (pw (dC, dI) vwCl [(o0, .inr (8, [.int x_th, .ref mwo, .ref mim, .ref mhi, .ref mlu, .ref mtp, .int x_td, .ref mfv, .int x_sz, .int x_at, .int x_fr, .int x_to, .int x_va, .int x_fk, .int x_fp, .ref mfr, .ref mwt, .int x_wt, .int x_op, .int x_jo, .ref mfg, .ref mpl, .long x_dr, .ref mtm, .ref mfa, .ref mqu, .ref mmo, .ref mwy, .ref mwn, .ref mma, .ref mwi, .ref mnu, .ref mmv])), (mwo, .inl (c_wo, 1875, .inl w_wo)), (mlu, .inl (c_lu, 20000, .inl w_lu))] [(c_wo, .int), (c_lu, .int)])) (vp_Si (fun r => ((-1 : Int) ≤ r.toInt ∧ r.toInt ≤ 19999) ∧ (r.toInt = -1 ∨ a2.toInt ≤ r.toInt))) 0 0 (fun _ => False) := by
  refine Met.ofW (cc := cX10_nextOf) (maxL := 4) (ret := (some .int)) pn_X10 rfl ?_
  intro p e s m args below meth c s₁ B hml hv
  obtain ⟨rfl, hP, hK, hN⟩ := hv
  have hx := B.exec
  have hb := B.bytes
  have hr := B.returns
  have hts := atoms_spec (ws := uX10_nextOf) B.pre
  have hown : s.vm.findClass RX10 = some m.cls := hown_of B.named rfl
  have hlocks := B.notSynchronized
  have hl := lv_entry ([.ref o0, .int a1, .int a2]) (n := 4) (Nat.le_of_ble_eq_true rfl)
  rw [lg_entry_eq]
  generalize (lg_sl ([.ref o0, .int a1, .int a2]) ++ List.replicate (4 - (lg_sl ([.ref o0, .int a1, .int a2])).length) Slot.unset).toArray = ls at hl ⊢
  have hl : lv_has ls 4 [(0, .ref o0), (1, .int a1), (2, .int a2)] := hl
  refine lv_iload_n hx hb dX10_nextOf_0 rfl (lv_at hl 2 rfl) ?_
  refine lv_istore_n (lv' := [(3, .int a2), (0, .ref o0), (1, .int a1), (2, .int a2)]) hx hb dX10_nextOf_1 rfl hl (by decide) rfl (fun ls hl => ?_)
  refine loopP (σ := Int32) (fun v => (20000 - v.toInt).toNat) (fun v ls => ((0 : Int) ≤ v.toInt ∧ v.toInt ≤ 20000) ∧ (a2.toInt ≤ v.toInt) ∧ lv_has ls 4 [(3, .int v), (0, .ref o0), (1, .int a1), (2, .int a2)]) (fun v ls hI ih_2_52 => ?_) a2 ⟨(show (0 : Int) ≤ a2.toInt ∧ a2.toInt ≤ 20000 from b_a2), (show a2.toInt ≤ a2.toInt from (by omega)), lv_sub hl [0, 1, 2, 3] rfl⟩
  obtain ⟨y_42, rfl⟩ : ∃ z, z = v := ⟨_, rfl⟩
  obtain ⟨b_y_42, hge, hl⟩ := hI
  have b_y_42 : (0 : Int) ≤ y_42.toInt ∧ y_42.toInt ≤ 20000 := b_y_42
  have hge : a2.toInt ≤ y_42.toInt := hge
  have hl : lv_has ls 4 [(3, .int y_42), (0, .ref o0), (1, .int a1), (2, .int a2)] := hl
  refine lv_iload_n hx hb dX10_nextOf_2 rfl (lv_at hl 0 rfl) ?_
  refine lv_aload_n hx hb dX10_nextOf_3 rfl (lv_at hl 1 rfl) ?_
  refine va_get (D := (dC, dI)) (ci := 8) (v := .ref mwo) (C := RX10) (T := TX10) (N := 33) hx hb hts iX10_nextOf_X10 hown hK hP 0 rfl rfl 1 (by decide) (hts (.fieldLink RX10 9 "LuckyTicketModel" "world" "[I") (List.mem_of_getElem? (i := 1) rfl)) (fun _ h9 => h9) rfl dX10_nextOf_4 ?_
  refine lv_iconst (v := 2) hx hb dX10_nextOf_7 (by decide) ?_
  refine va_iald hx hb hK hP 1 0 rfl rfl (vp_in_b (by decide : (2 : Int) ≤ (2 : Int32).toInt ∧ (2 : Int32).toInt ≤ 2) (by decide) (by decide)) dX10_nextOf_8 ?_
  refine lv_topi (fun z_53 e_z_53 => ?_)
  obtain rfl : tk = z_53 := (e_z_53.trans hw2).symm
  refine cutP (σ := Unit) (pc2 := 27) (st2 := fun v => []) (cells2 := 0) (slots2 := 0) (fun v ls => lv_has ls 4 [(3, .int y_42), (0, .ref o0), (1, .int a1), (2, .int a2)]) (fun v ls hI => ?_) (fun hj_27_57 => ?_)
  ·
    have hl := hI
    have hl : lv_has ls 4 [(3, .int y_42), (0, .ref o0), (1, .int a1), (2, .int a2)] := hl
    refine lv_iload_n hx hb dX10_nextOf_27 rfl (lv_at hl 0 rfl) ?_
    refine lv_aload_n hx hb dX10_nextOf_28 rfl (lv_at hl 1 rfl) ?_
    refine va_get (D := (dC, dI)) (ci := 8) (v := .ref mwo) (C := RX10) (T := TX10) (N := 33) hx hb hts iX10_nextOf_X10 hown hK hP 0 rfl rfl 1 (by decide) (hts (.fieldLink RX10 9 "LuckyTicketModel" "world" "[I") (List.mem_of_getElem? (i := 1) rfl)) (fun _ h9 => h9) rfl dX10_nextOf_29 ?_
    refine lv_iconst (v := 2) hx hb dX10_nextOf_32 (by decide) ?_
    refine va_iald hx hb hK hP 1 0 rfl rfl (vp_in_b (by decide : (2 : Int) ≤ (2 : Int32).toInt ∧ (2 : Int32).toInt ≤ 2) (by decide) (by decide)) dX10_nextOf_33 ?_
    refine lv_topi (fun z_58 e_z_58 => ?_)
    obtain rfl : tk = z_58 := (e_z_58.trans hw2).symm
    refine lv_icmp_ge (tgt := 41) hx hb dX10_nextOf_34 (by decide) (fun c_59 => ?_) (fun c_59 => ?_)
    ·
      have n_c_59 : (tk.toInt : Int) ≤ y_42.toInt := c_ge rfl rfl c_59
      refine lv_iconst (v := (-1)) hx hb dX10_nextOf_41 (by decide) ?_
      exact W.iret (v := (-1)) hx hb hr (fun t ht hW => ⟨(-1), rfl, ⟨(rg_w (by decide : (-1 : Int) ≤ ((-1) : Int32).toInt ∧ ((-1) : Int32).toInt ≤ -1) (by decide) (by decide)), (by first | omega | exact Or.inl (by decide))⟩, ht⟩) t_nil dX10_nextOf_42
    ·
      have n_c_59 : (y_42.toInt : Int) < tk.toInt := c_nge rfl rfl c_59
      have b_y_42 : (0 : Int) ≤ y_42.toInt ∧ y_42.toInt ≤ 19999 := r_lt1 b_y_42 b_tk n_c_59 (by decide)
      have b_tk : (1 : Int) ≤ tk.toInt ∧ tk.toInt ≤ 20000 := r_lt2 b_y_42 b_tk n_c_59 (by decide)
      refine lv_iload_n hx hb dX10_nextOf_37 rfl (lv_at hl 0 rfl) ?_
      refine lv_goto (tgt := 42) hx hb dX10_nextOf_38 (by decide) ?_
      exact W.iret (v := y_42) hx hb hr (fun t ht hW => ⟨y_42, rfl, ⟨(rg_w b_y_42 (by decide) (by decide)), (by first | omega | exact Or.inl (by decide))⟩, ht⟩) t_nil dX10_nextOf_42
  ·
    refine lv_icmp_ge (tgt := 27) hx hb dX10_nextOf_9 (by decide) (fun c_54 => ?_) (fun c_54 => ?_)
    ·
      have n_c_54 : (tk.toInt : Int) ≤ y_42.toInt := c_ge rfl rfl c_54
      exact hj_27_57 () _ (lv_sub hl [0, 1, 2, 3] rfl)
    ·
      have n_c_54 : (y_42.toInt : Int) < tk.toInt := c_nge rfl rfl c_54
      have b_y_42 : (0 : Int) ≤ y_42.toInt ∧ y_42.toInt ≤ 19999 := r_lt1 b_y_42 b_tk n_c_54 (by decide)
      have b_tk : (1 : Int) ≤ tk.toInt ∧ tk.toInt ≤ 20000 := r_lt2 b_y_42 b_tk n_c_54 (by decide)
      refine lv_aload_n hx hb dX10_nextOf_12 rfl (lv_at hl 1 rfl) ?_
      refine lv_iload_n hx hb dX10_nextOf_13 rfl (lv_at hl 2 rfl) ?_
      refine lv_iload_n hx hb dX10_nextOf_14 rfl (lv_at hl 0 rfl) ?_
      refine vp_callSi (W.runV (As := [.int a1, .int y_42]) (rest := []) ⟨hx, hb, hml, hown, hts⟩ (kX10_isLucky l dC dI o0 x_th mwo mim mhi mlu mtp x_td mfv x_sz x_at x_fr x_to x_va x_fk x_fp mfr mwt x_wt x_op x_jo mfg mpl x_dr mtm mfa mqu mmo mwy mwn mma mwi mnu mmv c_wo c_lu w_wo w_lu ln bs tk lw li a1 y_42 b_ln b_bs (rg_w b_tk (by decide) (by decide)) b_lw b_y_42 (hw0) (hw1) (hw2) (hw3) (hw4) (hwz)) (cwV 2 hts gX10_nextOf__X10_isLucky_V316 rfl rfl rfl hd_yX10_isLucky ⟨lel 1 1 rfl, lel 22 22 rfl⟩) ⟨pw_fb, rcv_X10 hK hP (q0 := 0) rfl, (pw_use hP hK hN [0, 1, 2] rfl [0, 1] rfl)⟩ rfl rfl hl.1 rfl (lv_room (Nat.le_of_ble_eq_true rfl)) dX10_nextOf_15 ⟨lel 0 0 rfl, lel 0 0 rfl⟩) (fun r_60 h_r_60 => ?_)
      have b_r_60 := h_r_60
      have b_r_60 : (0 : Int) ≤ r_60.toInt ∧ r_60.toInt ≤ 1 := b_r_60
      refine lv_if_ne (tgt := 27) hx hb dX10_nextOf_18 (by decide) (fun c_61 => ?_) (fun c_61 => ?_)
      ·
        have n_c_61 : (r_60.toInt : Int) ≠ 0 := c_ne rfl (by decide) c_61
        have b_r_60 : (1 : Int) ≤ r_60.toInt ∧ r_60.toInt ≤ 1 := r_ne1 b_r_60 (by decide : (0 : Int) ≤ (0 : Int32).toInt ∧ (0 : Int32).toInt ≤ 0) n_c_61 (by decide)
        exact hj_27_57 () _ (lv_sub hl [0, 1, 2, 3] rfl)
      ·
        have n_c_61 : (r_60.toInt : Int) = 0 := c_eq rfl (by decide) c_61
        have b_r_60 : (0 : Int) ≤ r_60.toInt ∧ r_60.toInt ≤ 0 := r_eq1 b_r_60 (by decide : (0 : Int) ≤ (0 : Int32).toInt ∧ (0 : Int32).toInt ≤ 0) n_c_61 (by decide)
        obtain ⟨z_62, e_z_62⟩ : ∃ y : Int32, y = y_42 + 1 := ⟨_, rfl⟩
        refine lv_iinc (v := z_62) (lv' := [(3, .int z_62), (0, .ref o0), (1, .int a1), (2, .int a2)]) hx hb dX10_nextOf_21 hl (k := 0) rfl (by rw [e_z_62]; rfl) (by decide) rfl (fun ls hl => ?_)
        obtain ⟨q_z_62, b_z_62⟩ := ti_add (lo := 1) (hi := 20000) e_z_62 rfl (by decide : (1 : Int32).toInt = 1) b_y_42 (by decide : (1 : Int) ≤ (1 : Int32).toInt ∧ (1 : Int32).toInt ≤ 1) (by decide)
        refine lv_goto (tgt := 2) hx hb dX10_nextOf_24 (by decide) ?_
        exact ih_2_52 z_62 _ ⟨(show (0 : Int) ≤ z_62.toInt ∧ z_62.toInt ≤ 20000 from (rg_w b_z_62 (by decide) (by decide))), (show a2.toInt ≤ z_62.toInt from (by omega)), lv_sub hl [0, 1, 2, 3] rfl⟩ (show (20000 - z_62.toInt).toNat < (20000 - y_42.toInt).toNat by omega)
theorem dX10_lastOf_0 : decode cX10_lastOf 0 = .ok (.iload_n 2, 1) := by decide +kernel
theorem dX10_lastOf_1 : decode cX10_lastOf 1 = .ok (.istore_n 3, 1) := by decide +kernel
theorem dX10_lastOf_2 : decode cX10_lastOf 2 = .ok (.iload_n 3, 1) := by decide +kernel
theorem dX10_lastOf_3 : decode cX10_lastOf 3 = .ok (.ifCond .lt 18, 3) := by decide +kernel
theorem dX10_lastOf_6 : decode cX10_lastOf 6 = .ok (.aload_n 0, 1) := by decide +kernel
theorem dX10_lastOf_7 : decode cX10_lastOf 7 = .ok (.iload_n 1, 1) := by decide +kernel
theorem dX10_lastOf_8 : decode cX10_lastOf 8 = .ok (.iload_n 3, 1) := by decide +kernel
theorem dX10_lastOf_9 : decode cX10_lastOf 9 = .ok (.invokevirtual 316, 3) := by decide +kernel
theorem dX10_lastOf_12 : decode cX10_lastOf 12 = .ok (.ifCond .ne 9, 3) := by decide +kernel
theorem dX10_lastOf_15 : decode cX10_lastOf 15 = .ok (.iinc 3 (-1), 3) := by decide +kernel
theorem dX10_lastOf_18 : decode cX10_lastOf 18 = .ok (.goto (-16), 3) := by decide +kernel
theorem dX10_lastOf_21 : decode cX10_lastOf 21 = .ok (.iload_n 3, 1) := by decide +kernel
theorem dX10_lastOf_22 : decode cX10_lastOf 22 = .ok (.ireturn, 1) := by decide +kernel
theorem hd_yX10_lastOf : yX10_lastOf.cls = RX10 ∧ yX10_lastOf.cls ≠ "java/lang/invoke/MethodHandle" ∧ yX10_lastOf.cls ≠ "java/lang/invoke/VarHandle" ∧ (parseMethodDescriptor yX10_lastOf.desc).map (fun d => d.parameters.length) = some 2 := by decide +kernel
def uX10_lastOf : List Cond := List.cons (.code yX10_lastOf cX10_lastOf 4 (some .int)) (HAppend.hAppend ([.methodLink RX10 316 yX10_isLucky, .instanceMethod yX10_isLucky, .selects RX10 yX10_isLucky yX10_isLucky, .initialized RX10] : List Cond) uX10_isLucky)
theorem guX10_lastOf : GU uX10_lastOf := gu_cons (gu_app (by decide +kernel) guX10_isLucky)
theorem gX10_lastOf__X10_isLucky_V316 : GoodIn uX10_lastOf (wsV RX10 316 RX10 yX10_isLucky uX10_isLucky) := gin_V (List.mem_of_getElem? (i := 1) rfl) (List.mem_of_getElem? (i := 2) rfl) (List.mem_of_getElem? (i := 3) rfl) (List.mem_of_getElem? (i := 4) rfl) (fun _ h => (List.mem_cons_of_mem _ (List.mem_append_right _ h))) guX10_isLucky
set_option maxHeartbeats 4000000 in
set_option maxRecDepth 100000 in
theorem kX10_lastOf (l : Launch) (dC : Nat → ClassId) (dI : Nat → Nat → Nat) (o0 : Nat) (x_th : Int32) (mwo : Nat) (mim : Nat) (mhi : Nat) (mlu : Nat) (mtp : Nat) (x_td : Int32) (mfv : Nat) (x_sz : Int32) (x_at : Int32) (x_fr : Int32) (x_to : Int32) (x_va : Int32) (x_fk : Int32) (x_fp : Int32) (mfr : Nat) (mwt : Nat) (x_wt : Int32) (x_op : Int32) (x_jo : Int32) (mfg : Nat) (mpl : Nat) (x_dr : Int64) (mtm : Nat) (mfa : Nat) (mqu : Nat) (mmo : Nat) (mwy : Nat) (mwn : Nat) (mma : Nat) (mwi : Nat) (mnu : Nat) (mmv : Nat) (c_wo : ClassId) (c_lu : ClassId) (w_wo : Nat → Int32) (w_lu : Nat → Int32) (ln : Int32) (bs : Int32) (tk : Int32) (lw : Int32) (li : Int32) (a1 : Int32) (a2 : Int32) (b_ln : (0 : Int) ≤ ln.toInt ∧ ln.toInt ≤ 12) (b_bs : (0 : Int) ≤ bs.toInt ∧ bs.toInt ≤ 16) (b_tk : (0 : Int) ≤ tk.toInt ∧ tk.toInt ≤ 20000) (b_lw : (0 : Int) ≤ lw.toInt ∧ lw.toInt ≤ 9) (b_a2 : (-1 : Int) ≤ a2.toInt ∧ a2.toInt ≤ 19999) (hw0 : w_wo 0 = ln) (hw1 : w_wo 1 = bs) (hw2 : w_wo 2 = tk) (hw3 : w_wo 3 = lw) (hw4 : w_wo 4 = li) (hwz : (ln.toInt = 0 ∧ bs.toInt = 0 ∧ tk.toInt = 0 ∧ lw.toInt = 0) ∨ (1 ≤ ln.toInt ∧ 2 ≤ bs.toInt ∧ 1 ≤ tk.toInt)) : Met l yX10_lastOf uX10_lastOf ({ frames := 1, cells := 0, slots := 0, locals := 22 }) (va_Pc [.ref o0, .int a1, .int a2] (pw (dC, dI) vwCl [(o0, .inr (8, [.int x_th, .ref mwo, .ref mim, .ref mhi, .ref mlu, .ref mtp, .int x_td, .ref mfv, .int x_sz, .int x_at, .int x_fr, .int x_to, .int x_va, .int x_fk, .int x_fp, .ref mfr, .ref mwt, .int x_wt, .int x_op, .int x_jo, .ref mfg, .ref mpl, .long x_dr, .ref mtm, .ref mfa, .ref mqu, .ref mmo, .ref mwy, .ref mwn, .ref mma, .ref mwi, .ref mnu, .ref mmv])), (mwo, .inl (c_wo, 1875, .inl w_wo)), (mlu, .inl (c_lu, 20000, .inl w_lu))] [(c_wo, .int), (c_lu, .int)])) (vp_Si (fun r => ((-1 : Int) ≤ r.toInt ∧ r.toInt ≤ 19999))) 0 0 (fun _ => False) := by
  refine Met.ofW (cc := cX10_lastOf) (maxL := 4) (ret := (some .int)) pn_X10 rfl ?_
  intro p e s m args below meth c s₁ B hml hv
  obtain ⟨rfl, hP, hK, hN⟩ := hv
  have hx := B.exec
  have hb := B.bytes
  have hr := B.returns
  have hts := atoms_spec (ws := uX10_lastOf) B.pre
  have hown : s.vm.findClass RX10 = some m.cls := hown_of B.named rfl
  have hlocks := B.notSynchronized
  have hl := lv_entry ([.ref o0, .int a1, .int a2]) (n := 4) (Nat.le_of_ble_eq_true rfl)
  rw [lg_entry_eq]
  generalize (lg_sl ([.ref o0, .int a1, .int a2]) ++ List.replicate (4 - (lg_sl ([.ref o0, .int a1, .int a2])).length) Slot.unset).toArray = ls at hl ⊢
  have hl : lv_has ls 4 [(0, .ref o0), (1, .int a1), (2, .int a2)] := hl
  refine lv_iload_n hx hb dX10_lastOf_0 rfl (lv_at hl 2 rfl) ?_
  refine lv_istore_n (lv' := [(3, .int a2), (0, .ref o0), (1, .int a1), (2, .int a2)]) hx hb dX10_lastOf_1 rfl hl (by decide) rfl (fun ls hl => ?_)
  refine loopP (σ := Int32) (fun v => (v.toInt - (-1)).toNat) (fun v ls => ((-1 : Int) ≤ v.toInt ∧ v.toInt ≤ 19999) ∧ lv_has ls 4 [(3, .int v), (0, .ref o0), (1, .int a1), (2, .int a2)]) (fun v ls hI ih_2_22 => ?_) a2 ⟨(show (-1 : Int) ≤ a2.toInt ∧ a2.toInt ≤ 19999 from b_a2), lv_sub hl [0, 1, 2, 3] rfl⟩
  obtain ⟨y_18, rfl⟩ : ∃ z, z = v := ⟨_, rfl⟩
  obtain ⟨b_y_18, hl⟩ := hI
  have b_y_18 : (-1 : Int) ≤ y_18.toInt ∧ y_18.toInt ≤ 19999 := b_y_18
  have hl : lv_has ls 4 [(3, .int y_18), (0, .ref o0), (1, .int a1), (2, .int a2)] := hl
  refine lv_iload_n hx hb dX10_lastOf_2 rfl (lv_at hl 0 rfl) ?_
  refine lv_if_lt (tgt := 21) hx hb dX10_lastOf_3 (by decide) (fun c_23 => ?_) (fun c_23 => ?_)
  ·
    have n_c_23 : (y_18.toInt : Int) < 0 := c_lt rfl (by decide) c_23
    have b_y_18 : (-1 : Int) ≤ y_18.toInt ∧ y_18.toInt ≤ -1 := r_lt1 b_y_18 (by decide : (0 : Int) ≤ (0 : Int32).toInt ∧ (0 : Int32).toInt ≤ 0) n_c_23 (by decide)
    refine lv_iload_n hx hb dX10_lastOf_21 rfl (lv_at hl 0 rfl) ?_
    exact W.iret (v := y_18) hx hb hr (fun t ht hW => ⟨y_18, rfl, (rg_w b_y_18 (by decide) (by decide)), ht⟩) t_nil dX10_lastOf_22
  ·
    have n_c_23 : (0 : Int) ≤ y_18.toInt := c_nlt rfl (by decide) c_23
    have b_y_18 : (0 : Int) ≤ y_18.toInt ∧ y_18.toInt ≤ 19999 := r_le2 (by decide : (0 : Int) ≤ (0 : Int32).toInt ∧ (0 : Int32).toInt ≤ 0) b_y_18 n_c_23 (by decide)
    refine lv_aload_n hx hb dX10_lastOf_6 rfl (lv_at hl 1 rfl) ?_
    refine lv_iload_n hx hb dX10_lastOf_7 rfl (lv_at hl 2 rfl) ?_
    refine lv_iload_n hx hb dX10_lastOf_8 rfl (lv_at hl 0 rfl) ?_
    refine vp_callSi (W.runV (As := [.int a1, .int y_18]) (rest := []) ⟨hx, hb, hml, hown, hts⟩ (kX10_isLucky l dC dI o0 x_th mwo mim mhi mlu mtp x_td mfv x_sz x_at x_fr x_to x_va x_fk x_fp mfr mwt x_wt x_op x_jo mfg mpl x_dr mtm mfa mqu mmo mwy mwn mma mwi mnu mmv c_wo c_lu w_wo w_lu ln bs tk lw li a1 y_18 b_ln b_bs b_tk b_lw b_y_18 (hw0) (hw1) (hw2) (hw3) (hw4) (hwz)) (cwV 2 hts gX10_lastOf__X10_isLucky_V316 rfl rfl rfl hd_yX10_isLucky ⟨lel 1 1 rfl, lel 22 22 rfl⟩) ⟨pw_fb, rcv_X10 hK hP (q0 := 0) rfl, (pw_use hP hK hN [0, 1, 2] rfl [0, 1] rfl)⟩ rfl rfl hl.1 rfl (lv_room (Nat.le_of_ble_eq_true rfl)) dX10_lastOf_9 ⟨lel 0 0 rfl, lel 0 0 rfl⟩) (fun r_24 h_r_24 => ?_)
    have b_r_24 := h_r_24
    have b_r_24 : (0 : Int) ≤ r_24.toInt ∧ r_24.toInt ≤ 1 := b_r_24
    refine lv_if_ne (tgt := 21) hx hb dX10_lastOf_12 (by decide) (fun c_25 => ?_) (fun c_25 => ?_)
    ·
      have n_c_25 : (r_24.toInt : Int) ≠ 0 := c_ne rfl (by decide) c_25
      have b_r_24 : (1 : Int) ≤ r_24.toInt ∧ r_24.toInt ≤ 1 := r_ne1 b_r_24 (by decide : (0 : Int) ≤ (0 : Int32).toInt ∧ (0 : Int32).toInt ≤ 0) n_c_25 (by decide)
      refine lv_iload_n hx hb dX10_lastOf_21 rfl (lv_at hl 0 rfl) ?_
      exact W.iret (v := y_18) hx hb hr (fun t ht hW => ⟨y_18, rfl, (rg_w b_y_18 (by decide) (by decide)), ht⟩) t_nil dX10_lastOf_22
    ·
      have n_c_25 : (r_24.toInt : Int) = 0 := c_eq rfl (by decide) c_25
      have b_r_24 : (0 : Int) ≤ r_24.toInt ∧ r_24.toInt ≤ 0 := r_eq1 b_r_24 (by decide : (0 : Int) ≤ (0 : Int32).toInt ∧ (0 : Int32).toInt ≤ 0) n_c_25 (by decide)
      obtain ⟨z_26, e_z_26⟩ : ∃ y : Int32, y = y_18 + (-1) := ⟨_, rfl⟩
      refine lv_iinc (v := z_26) (lv' := [(3, .int z_26), (0, .ref o0), (1, .int a1), (2, .int a2)]) hx hb dX10_lastOf_15 hl (k := 0) rfl (by rw [e_z_26]; rfl) (by decide) rfl (fun ls hl => ?_)
      obtain ⟨q_z_26, b_z_26⟩ := ti_add (lo := -1) (hi := 19998) e_z_26 rfl (by decide : ((-1) : Int32).toInt = -1) b_y_18 (by decide : (-1 : Int) ≤ ((-1) : Int32).toInt ∧ ((-1) : Int32).toInt ≤ -1) (by decide)
      refine lv_goto (tgt := 2) hx hb dX10_lastOf_18 (by decide) ?_
      exact ih_2_22 z_26 _ ⟨(show (-1 : Int) ≤ z_26.toInt ∧ z_26.toInt ≤ 19999 from (rg_w b_z_26 (by decide) (by decide))), lv_sub hl [0, 1, 2, 3] rfl⟩ (show (z_26.toInt - (-1)).toNat < (y_18.toInt - (-1)).toNat by omega)
theorem dX10_next_0 : decode cX10_next 0 = .ok (.aload_n 0, 1) := by decide +kernel
theorem dX10_next_1 : decode cX10_next 1 = .ok (.iload_n 1, 1) := by decide +kernel
theorem dX10_next_2 : decode cX10_next 2 = .ok (.iload_n 2, 1) := by decide +kernel
theorem dX10_next_3 : decode cX10_next 3 = .ok (.invokevirtual 313, 3) := by decide +kernel
theorem dX10_next_6 : decode cX10_next 6 = .ok (.ifCond .eq 14, 3) := by decide +kernel
theorem dX10_next_9 : decode cX10_next 9 = .ok (.aload_n 0, 1) := by decide +kernel
theorem dX10_next_10 : decode cX10_next 10 = .ok (.iload_n 1, 1) := by decide +kernel
theorem dX10_next_11 : decode cX10_next 11 = .ok (.iload_n 2, 1) := by decide +kernel
theorem dX10_next_12 : decode cX10_next 12 = .ok (.iconst 1, 1) := by decide +kernel
theorem dX10_next_13 : decode cX10_next 13 = .ok (.iadd, 1) := by decide +kernel
theorem dX10_next_14 : decode cX10_next 14 = .ok (.invokevirtual 325, 3) := by decide +kernel
theorem dX10_next_17 : decode cX10_next 17 = .ok (.goto 5, 3) := by decide +kernel
theorem dX10_next_20 : decode cX10_next 20 = .ok (.bipush (-2), 2) := by decide +kernel
theorem dX10_next_22 : decode cX10_next 22 = .ok (.ireturn, 1) := by decide +kernel
theorem hd_yX10_next : yX10_next.cls = RX10 ∧ yX10_next.cls ≠ "java/lang/invoke/MethodHandle" ∧ yX10_next.cls ≠ "java/lang/invoke/VarHandle" ∧ (parseMethodDescriptor yX10_next.desc).map (fun d => d.parameters.length) = some 2 := by decide +kernel
def uX10_next : List Cond := List.cons (.code yX10_next cX10_next 3 (some .int)) (HAppend.hAppend ([.methodLink RX10 313 yX10_isBoth, .instanceMethod yX10_isBoth, .selects RX10 yX10_isBoth yX10_isBoth, .initialized RX10, .methodLink RX10 325 yX10_nextOf, .instanceMethod yX10_nextOf, .selects RX10 yX10_nextOf yX10_nextOf] : List Cond) (HAppend.hAppend uX10_isBoth uX10_nextOf))
theorem guX10_next : GU uX10_next := gu_cons (gu_app (by decide +kernel) (gu_ap guX10_isBoth guX10_nextOf))
theorem gX10_next__X10_isBoth_V313 : GoodIn uX10_next (wsV RX10 313 RX10 yX10_isBoth uX10_isBoth) := gin_V (List.mem_of_getElem? (i := 1) rfl) (List.mem_of_getElem? (i := 2) rfl) (List.mem_of_getElem? (i := 3) rfl) (List.mem_of_getElem? (i := 4) rfl) (fun _ h => (List.mem_cons_of_mem _ (List.mem_append_right _ (List.mem_append_left _ h)))) guX10_isBoth
theorem gX10_next__X10_nextOf_V325 : GoodIn uX10_next (wsV RX10 325 RX10 yX10_nextOf uX10_nextOf) := gin_V (List.mem_of_getElem? (i := 5) rfl) (List.mem_of_getElem? (i := 6) rfl) (List.mem_of_getElem? (i := 7) rfl) (List.mem_of_getElem? (i := 4) rfl) (fun _ h => (List.mem_cons_of_mem _ (List.mem_append_right _ (List.mem_append_right _ h)))) guX10_nextOf
set_option maxHeartbeats 4000000 in
set_option maxRecDepth 100000 in
theorem kX10_next (l : Launch) (dC : Nat → ClassId) (dI : Nat → Nat → Nat) (o0 : Nat) (x_th : Int32) (mwo : Nat) (mim : Nat) (mhi : Nat) (mlu : Nat) (mtp : Nat) (x_td : Int32) (mfv : Nat) (x_sz : Int32) (x_at : Int32) (x_fr : Int32) (x_to : Int32) (x_va : Int32) (x_fk : Int32) (x_fp : Int32) (mfr : Nat) (mwt : Nat) (x_wt : Int32) (x_op : Int32) (x_jo : Int32) (mfg : Nat) (mpl : Nat) (x_dr : Int64) (mtm : Nat) (mfa : Nat) (mqu : Nat) (mmo : Nat) (mwy : Nat) (mwn : Nat) (mma : Nat) (mwi : Nat) (mnu : Nat) (mmv : Nat) (c_wo : ClassId) (c_lu : ClassId) (w_wo : Nat → Int32) (w_lu : Nat → Int32) (ln : Int32) (bs : Int32) (tk : Int32) (lw : Int32) (li : Int32) (a1 : Int32) (a2 : Int32) (b_ln : (0 : Int) ≤ ln.toInt ∧ ln.toInt ≤ 12) (b_bs : (0 : Int) ≤ bs.toInt ∧ bs.toInt ≤ 16) (b_tk : (0 : Int) ≤ tk.toInt ∧ tk.toInt ≤ 20000) (b_lw : (0 : Int) ≤ lw.toInt ∧ lw.toInt ≤ 9) (hw0 : w_wo 0 = ln) (hw1 : w_wo 1 = bs) (hw2 : w_wo 2 = tk) (hw3 : w_wo 3 = lw) (hw4 : w_wo 4 = li) (hwz : (ln.toInt = 0 ∧ bs.toInt = 0 ∧ tk.toInt = 0 ∧ lw.toInt = 0) ∨ (1 ≤ ln.toInt ∧ 2 ≤ bs.toInt ∧ 1 ≤ tk.toInt)) : Met l yX10_next uX10_next ({ frames := 3, cells := 0, slots := 0, locals := 69 }) (va_Pc [.ref o0, .int a1, .int a2] (pw (dC, dI) vwCl [(o0, .inr (8, [.int x_th, .ref mwo, .ref mim, .ref mhi, .ref mlu, .ref mtp, .int x_td, .ref mfv, .int x_sz, .int x_at, .int x_fr, .int x_to, .int x_va, .int x_fk, .int x_fp, .ref mfr, .ref mwt, .int x_wt, .int x_op, .int x_jo, .ref mfg, .ref mpl, .long x_dr, .ref mtm, .ref mfa, .ref mqu, .ref mmo, .ref mwy, .ref mwn, .ref mma, .ref mwi, .ref mnu, .ref mmv])), (mwo, .inl (c_wo, 1875, .inl w_wo)), (mlu, .inl (c_lu, 20000, .inl w_lu))] [(c_wo, .int), (c_lu, .int)])) (vp_Si (fun r => ((-2 : Int) ≤ r.toInt ∧ r.toInt ≤ 19999))) 0 0 (fun _ => False) := by
  refine Met.ofW (cc := cX10_next) (maxL := 3) (ret := (some .int)) pn_X10 rfl ?_
  intro p e s m args below meth c s₁ B hml hv
  obtain ⟨rfl, hP, hK, hN⟩ := hv
  have hx := B.exec
  have hb := B.bytes
  have hr := B.returns
  have hts := atoms_spec (ws := uX10_next) B.pre
  have hown : s.vm.findClass RX10 = some m.cls := hown_of B.named rfl
  have hlocks := B.notSynchronized
  have hl := lv_entry ([.ref o0, .int a1, .int a2]) (n := 3) (Nat.le_of_ble_eq_true rfl)
  rw [lg_entry_eq]
  generalize (lg_sl ([.ref o0, .int a1, .int a2]) ++ List.replicate (3 - (lg_sl ([.ref o0, .int a1, .int a2])).length) Slot.unset).toArray = ls at hl ⊢
  have hl : lv_has ls 3 [(0, .ref o0), (1, .int a1), (2, .int a2)] := hl
  refine lv_aload_n hx hb dX10_next_0 rfl (lv_at hl 0 rfl) ?_
  refine lv_iload_n hx hb dX10_next_1 rfl (lv_at hl 1 rfl) ?_
  refine lv_iload_n hx hb dX10_next_2 rfl (lv_at hl 2 rfl) ?_
  refine vp_callSi (W.runV (As := [.int a1, .int a2]) (rest := []) ⟨hx, hb, hml, hown, hts⟩ (kX10_isBoth l dC dI o0 x_th mwo mim mhi mlu mtp x_td mfv x_sz x_at x_fr x_to x_va x_fk x_fp mfr mwt x_wt x_op x_jo mfg mpl x_dr mtm mfa mqu mmo mwy mwn mma mwi mnu mmv c_wo w_wo ln bs tk lw li a1 a2 b_ln b_bs b_tk b_lw (hw0) (hw1) (hw2) (hw3) (hw4) (hwz)) (cwV 2 hts gX10_next__X10_isBoth_V313 rfl rfl rfl hd_yX10_isBoth ⟨lel 3 3 rfl, lel 69 69 rfl⟩) ⟨pw_fb, rcv_X10 hK hP (q0 := 0) rfl, (pw_use hP hK hN [0, 1] rfl [0] rfl)⟩ rfl rfl hl.1 rfl (lv_room (Nat.le_of_ble_eq_true rfl)) dX10_next_3 ⟨lel 0 0 rfl, lel 0 0 rfl⟩) (fun r_6 h_r_6 => ?_)
  obtain ⟨b_r_6, nz_r_6⟩ := h_r_6
  have b_r_6 : (0 : Int) ≤ r_6.toInt ∧ r_6.toInt ≤ 1 := b_r_6
  refine lv_if_eq (tgt := 20) hx hb dX10_next_6 (by decide) (fun c_7 => ?_) (fun c_7 => ?_)
  ·
    have n_c_7 : (r_6.toInt : Int) = 0 := c_eq rfl (by decide) c_7
    have b_r_6 : (0 : Int) ≤ r_6.toInt ∧ r_6.toInt ≤ 0 := r_eq1 b_r_6 (by decide : (0 : Int) ≤ (0 : Int32).toInt ∧ (0 : Int32).toInt ≤ 0) n_c_7 (by decide)
    refine lv_bipush (v := (-2)) hx hb dX10_next_20 (by decide) ?_
    exact W.iret (v := (-2)) hx hb hr (fun t ht hW => ⟨(-2), rfl, (rg_w (by decide : (-2 : Int) ≤ ((-2) : Int32).toInt ∧ ((-2) : Int32).toInt ≤ -2) (by decide) (by decide)), ht⟩) t_nil dX10_next_22
  ·
    have n_c_7 : (r_6.toInt : Int) ≠ 0 := c_ne rfl (by decide) c_7
    have b_r_6 : (1 : Int) ≤ r_6.toInt ∧ r_6.toInt ≤ 1 := r_ne1 b_r_6 (by decide : (0 : Int) ≤ (0 : Int32).toInt ∧ (0 : Int32).toInt ≤ 0) n_c_7 (by decide)
    obtain ⟨b_a1, b_a2, g_8⟩ := nz_r_6 c_7
    refine lv_aload_n hx hb dX10_next_9 rfl (lv_at hl 0 rfl) ?_
    refine lv_iload_n hx hb dX10_next_10 rfl (lv_at hl 1 rfl) ?_
    refine lv_iload_n hx hb dX10_next_11 rfl (lv_at hl 2 rfl) ?_
    refine lv_iconst (v := 1) hx hb dX10_next_12 (by decide) ?_
    refine lv_iadd hx hb dX10_next_13 ?_
    refine lv_topi (fun z_9 e_z_9 => ?_)
    obtain ⟨q_z_9, b_z_9⟩ := ti_add (lo := 1) (hi := 20000) e_z_9 rfl (by decide : (1 : Int32).toInt = 1) b_a2 (by decide : (1 : Int) ≤ (1 : Int32).toInt ∧ (1 : Int32).toInt ≤ 1) (by decide)
    refine vp_callSi (W.runV (As := [.int a1, .int z_9]) (rest := []) ⟨hx, hb, hml, hown, hts⟩ (kX10_nextOf l dC dI o0 x_th mwo mim mhi mlu mtp x_td mfv x_sz x_at x_fr x_to x_va x_fk x_fp mfr mwt x_wt x_op x_jo mfg mpl x_dr mtm mfa mqu mmo mwy mwn mma mwi mnu mmv c_wo c_lu w_wo w_lu ln bs tk lw li a1 z_9 b_ln b_bs b_tk b_lw (rg_w b_z_9 (by decide) (by decide)) (hw0) (hw1) (hw2) (hw3) (hw4) (hwz)) (cwV 2 hts gX10_next__X10_nextOf_V325 rfl rfl rfl hd_yX10_nextOf ⟨lel 2 3 rfl, lel 45 69 rfl⟩) ⟨pw_fb, rcv_X10 hK hP (q0 := 0) rfl, (pw_use hP hK hN [0, 1, 2] rfl [0, 1] rfl)⟩ rfl rfl hl.1 rfl (lv_room (Nat.le_of_ble_eq_true rfl)) dX10_next_14 ⟨lel 0 0 rfl, lel 0 0 rfl⟩) (fun r_10 h_r_10 => ?_)
    obtain ⟨b_r_10, pr_r_10⟩ := h_r_10
    have b_r_10 : (-1 : Int) ≤ r_10.toInt ∧ r_10.toInt ≤ 19999 := b_r_10
    refine lv_goto (tgt := 22) hx hb dX10_next_17 (by decide) ?_
    exact W.iret (v := r_10) hx hb hr (fun t ht hW => ⟨r_10, rfl, (rg_w b_r_10 (by decide) (by decide)), ht⟩) t_nil dX10_next_22
theorem dX10_last_0 : decode cX10_last 0 = .ok (.aload_n 0, 1) := by decide +kernel
theorem dX10_last_1 : decode cX10_last 1 = .ok (.iload_n 1, 1) := by decide +kernel
theorem dX10_last_2 : decode cX10_last 2 = .ok (.iload_n 2, 1) := by decide +kernel
theorem dX10_last_3 : decode cX10_last 3 = .ok (.invokevirtual 313, 3) := by decide +kernel
theorem dX10_last_6 : decode cX10_last 6 = .ok (.ifCond .eq 14, 3) := by decide +kernel
theorem dX10_last_9 : decode cX10_last 9 = .ok (.aload_n 0, 1) := by decide +kernel
theorem dX10_last_10 : decode cX10_last 10 = .ok (.iload_n 1, 1) := by decide +kernel
theorem dX10_last_11 : decode cX10_last 11 = .ok (.iload_n 2, 1) := by decide +kernel
theorem dX10_last_12 : decode cX10_last 12 = .ok (.iconst 1, 1) := by decide +kernel
theorem dX10_last_13 : decode cX10_last 13 = .ok (.isub, 1) := by decide +kernel
theorem dX10_last_14 : decode cX10_last 14 = .ok (.invokevirtual 328, 3) := by decide +kernel
theorem dX10_last_17 : decode cX10_last 17 = .ok (.goto 5, 3) := by decide +kernel
theorem dX10_last_20 : decode cX10_last 20 = .ok (.bipush (-2), 2) := by decide +kernel
theorem dX10_last_22 : decode cX10_last 22 = .ok (.ireturn, 1) := by decide +kernel
theorem hd_yX10_last : yX10_last.cls = RX10 ∧ yX10_last.cls ≠ "java/lang/invoke/MethodHandle" ∧ yX10_last.cls ≠ "java/lang/invoke/VarHandle" ∧ (parseMethodDescriptor yX10_last.desc).map (fun d => d.parameters.length) = some 2 := by decide +kernel
def uX10_last : List Cond := List.cons (.code yX10_last cX10_last 3 (some .int)) (HAppend.hAppend ([.methodLink RX10 313 yX10_isBoth, .instanceMethod yX10_isBoth, .selects RX10 yX10_isBoth yX10_isBoth, .initialized RX10, .methodLink RX10 328 yX10_lastOf, .instanceMethod yX10_lastOf, .selects RX10 yX10_lastOf yX10_lastOf] : List Cond) (HAppend.hAppend uX10_isBoth uX10_lastOf))
theorem guX10_last : GU uX10_last := gu_cons (gu_app (by decide +kernel) (gu_ap guX10_isBoth guX10_lastOf))
theorem gX10_last__X10_isBoth_V313 : GoodIn uX10_last (wsV RX10 313 RX10 yX10_isBoth uX10_isBoth) := gin_V (List.mem_of_getElem? (i := 1) rfl) (List.mem_of_getElem? (i := 2) rfl) (List.mem_of_getElem? (i := 3) rfl) (List.mem_of_getElem? (i := 4) rfl) (fun _ h => (List.mem_cons_of_mem _ (List.mem_append_right _ (List.mem_append_left _ h)))) guX10_isBoth
theorem gX10_last__X10_lastOf_V328 : GoodIn uX10_last (wsV RX10 328 RX10 yX10_lastOf uX10_lastOf) := gin_V (List.mem_of_getElem? (i := 5) rfl) (List.mem_of_getElem? (i := 6) rfl) (List.mem_of_getElem? (i := 7) rfl) (List.mem_of_getElem? (i := 4) rfl) (fun _ h => (List.mem_cons_of_mem _ (List.mem_append_right _ (List.mem_append_right _ h)))) guX10_lastOf
set_option maxHeartbeats 4000000 in
set_option maxRecDepth 100000 in
theorem kX10_last (l : Launch) (dC : Nat → ClassId) (dI : Nat → Nat → Nat) (o0 : Nat) (x_th : Int32) (mwo : Nat) (mim : Nat) (mhi : Nat) (mlu : Nat) (mtp : Nat) (x_td : Int32) (mfv : Nat) (x_sz : Int32) (x_at : Int32) (x_fr : Int32) (x_to : Int32) (x_va : Int32) (x_fk : Int32) (x_fp : Int32) (mfr : Nat) (mwt : Nat) (x_wt : Int32) (x_op : Int32) (x_jo : Int32) (mfg : Nat) (mpl : Nat) (x_dr : Int64) (mtm : Nat) (mfa : Nat) (mqu : Nat) (mmo : Nat) (mwy : Nat) (mwn : Nat) (mma : Nat) (mwi : Nat) (mnu : Nat) (mmv : Nat) (c_wo : ClassId) (c_lu : ClassId) (w_wo : Nat → Int32) (w_lu : Nat → Int32) (ln : Int32) (bs : Int32) (tk : Int32) (lw : Int32) (li : Int32) (a1 : Int32) (a2 : Int32) (b_ln : (0 : Int) ≤ ln.toInt ∧ ln.toInt ≤ 12) (b_bs : (0 : Int) ≤ bs.toInt ∧ bs.toInt ≤ 16) (b_tk : (0 : Int) ≤ tk.toInt ∧ tk.toInt ≤ 20000) (b_lw : (0 : Int) ≤ lw.toInt ∧ lw.toInt ≤ 9) (hw0 : w_wo 0 = ln) (hw1 : w_wo 1 = bs) (hw2 : w_wo 2 = tk) (hw3 : w_wo 3 = lw) (hw4 : w_wo 4 = li) (hwz : (ln.toInt = 0 ∧ bs.toInt = 0 ∧ tk.toInt = 0 ∧ lw.toInt = 0) ∨ (1 ≤ ln.toInt ∧ 2 ≤ bs.toInt ∧ 1 ≤ tk.toInt)) : Met l yX10_last uX10_last ({ frames := 3, cells := 0, slots := 0, locals := 69 }) (va_Pc [.ref o0, .int a1, .int a2] (pw (dC, dI) vwCl [(o0, .inr (8, [.int x_th, .ref mwo, .ref mim, .ref mhi, .ref mlu, .ref mtp, .int x_td, .ref mfv, .int x_sz, .int x_at, .int x_fr, .int x_to, .int x_va, .int x_fk, .int x_fp, .ref mfr, .ref mwt, .int x_wt, .int x_op, .int x_jo, .ref mfg, .ref mpl, .long x_dr, .ref mtm, .ref mfa, .ref mqu, .ref mmo, .ref mwy, .ref mwn, .ref mma, .ref mwi, .ref mnu, .ref mmv])), (mwo, .inl (c_wo, 1875, .inl w_wo)), (mlu, .inl (c_lu, 20000, .inl w_lu))] [(c_wo, .int), (c_lu, .int)])) (vp_Si (fun r => ((-2 : Int) ≤ r.toInt ∧ r.toInt ≤ 19999))) 0 0 (fun _ => False) := by
  refine Met.ofW (cc := cX10_last) (maxL := 3) (ret := (some .int)) pn_X10 rfl ?_
  intro p e s m args below meth c s₁ B hml hv
  obtain ⟨rfl, hP, hK, hN⟩ := hv
  have hx := B.exec
  have hb := B.bytes
  have hr := B.returns
  have hts := atoms_spec (ws := uX10_last) B.pre
  have hown : s.vm.findClass RX10 = some m.cls := hown_of B.named rfl
  have hlocks := B.notSynchronized
  have hl := lv_entry ([.ref o0, .int a1, .int a2]) (n := 3) (Nat.le_of_ble_eq_true rfl)
  rw [lg_entry_eq]
  generalize (lg_sl ([.ref o0, .int a1, .int a2]) ++ List.replicate (3 - (lg_sl ([.ref o0, .int a1, .int a2])).length) Slot.unset).toArray = ls at hl ⊢
  have hl : lv_has ls 3 [(0, .ref o0), (1, .int a1), (2, .int a2)] := hl
  refine lv_aload_n hx hb dX10_last_0 rfl (lv_at hl 0 rfl) ?_
  refine lv_iload_n hx hb dX10_last_1 rfl (lv_at hl 1 rfl) ?_
  refine lv_iload_n hx hb dX10_last_2 rfl (lv_at hl 2 rfl) ?_
  refine vp_callSi (W.runV (As := [.int a1, .int a2]) (rest := []) ⟨hx, hb, hml, hown, hts⟩ (kX10_isBoth l dC dI o0 x_th mwo mim mhi mlu mtp x_td mfv x_sz x_at x_fr x_to x_va x_fk x_fp mfr mwt x_wt x_op x_jo mfg mpl x_dr mtm mfa mqu mmo mwy mwn mma mwi mnu mmv c_wo w_wo ln bs tk lw li a1 a2 b_ln b_bs b_tk b_lw (hw0) (hw1) (hw2) (hw3) (hw4) (hwz)) (cwV 2 hts gX10_last__X10_isBoth_V313 rfl rfl rfl hd_yX10_isBoth ⟨lel 3 3 rfl, lel 69 69 rfl⟩) ⟨pw_fb, rcv_X10 hK hP (q0 := 0) rfl, (pw_use hP hK hN [0, 1] rfl [0] rfl)⟩ rfl rfl hl.1 rfl (lv_room (Nat.le_of_ble_eq_true rfl)) dX10_last_3 ⟨lel 0 0 rfl, lel 0 0 rfl⟩) (fun r_6 h_r_6 => ?_)
  obtain ⟨b_r_6, nz_r_6⟩ := h_r_6
  have b_r_6 : (0 : Int) ≤ r_6.toInt ∧ r_6.toInt ≤ 1 := b_r_6
  refine lv_if_eq (tgt := 20) hx hb dX10_last_6 (by decide) (fun c_7 => ?_) (fun c_7 => ?_)
  ·
    have n_c_7 : (r_6.toInt : Int) = 0 := c_eq rfl (by decide) c_7
    have b_r_6 : (0 : Int) ≤ r_6.toInt ∧ r_6.toInt ≤ 0 := r_eq1 b_r_6 (by decide : (0 : Int) ≤ (0 : Int32).toInt ∧ (0 : Int32).toInt ≤ 0) n_c_7 (by decide)
    refine lv_bipush (v := (-2)) hx hb dX10_last_20 (by decide) ?_
    exact W.iret (v := (-2)) hx hb hr (fun t ht hW => ⟨(-2), rfl, (rg_w (by decide : (-2 : Int) ≤ ((-2) : Int32).toInt ∧ ((-2) : Int32).toInt ≤ -2) (by decide) (by decide)), ht⟩) t_nil dX10_last_22
  ·
    have n_c_7 : (r_6.toInt : Int) ≠ 0 := c_ne rfl (by decide) c_7
    have b_r_6 : (1 : Int) ≤ r_6.toInt ∧ r_6.toInt ≤ 1 := r_ne1 b_r_6 (by decide : (0 : Int) ≤ (0 : Int32).toInt ∧ (0 : Int32).toInt ≤ 0) n_c_7 (by decide)
    obtain ⟨b_a1, b_a2, g_8⟩ := nz_r_6 c_7
    refine lv_aload_n hx hb dX10_last_9 rfl (lv_at hl 0 rfl) ?_
    refine lv_iload_n hx hb dX10_last_10 rfl (lv_at hl 1 rfl) ?_
    refine lv_iload_n hx hb dX10_last_11 rfl (lv_at hl 2 rfl) ?_
    refine lv_iconst (v := 1) hx hb dX10_last_12 (by decide) ?_
    refine lv_isub hx hb dX10_last_13 ?_
    refine lv_topi (fun z_9 e_z_9 => ?_)
    obtain ⟨q_z_9, b_z_9⟩ := ti_sub (lo := -1) (hi := 19998) e_z_9 rfl (by decide : (1 : Int32).toInt = 1) b_a2 (by decide : (1 : Int) ≤ (1 : Int32).toInt ∧ (1 : Int32).toInt ≤ 1) (by decide)
    refine vp_callSi (W.runV (As := [.int a1, .int z_9]) (rest := []) ⟨hx, hb, hml, hown, hts⟩ (kX10_lastOf l dC dI o0 x_th mwo mim mhi mlu mtp x_td mfv x_sz x_at x_fr x_to x_va x_fk x_fp mfr mwt x_wt x_op x_jo mfg mpl x_dr mtm mfa mqu mmo mwy mwn mma mwi mnu mmv c_wo c_lu w_wo w_lu ln bs tk lw li a1 z_9 b_ln b_bs b_tk b_lw (rg_w b_z_9 (by decide) (by decide)) (hw0) (hw1) (hw2) (hw3) (hw4) (hwz)) (cwV 2 hts gX10_last__X10_lastOf_V328 rfl rfl rfl hd_yX10_lastOf ⟨lel 2 3 rfl, lel 45 69 rfl⟩) ⟨pw_fb, rcv_X10 hK hP (q0 := 0) rfl, (pw_use hP hK hN [0, 1, 2] rfl [0, 1] rfl)⟩ rfl rfl hl.1 rfl (lv_room (Nat.le_of_ble_eq_true rfl)) dX10_last_14 ⟨lel 0 0 rfl, lel 0 0 rfl⟩) (fun r_10 h_r_10 => ?_)
    have b_r_10 := h_r_10
    have b_r_10 : (-1 : Int) ≤ r_10.toInt ∧ r_10.toInt ≤ 19999 := b_r_10
    refine lv_goto (tgt := 22) hx hb dX10_last_17 (by decide) ?_
    exact W.iret (v := r_10) hx hb hr (fun t ht hW => ⟨r_10, rfl, (rg_w b_r_10 (by decide) (by decide)), ht⟩) t_nil dX10_last_22
theorem dX10_nthOf_0 : decode cX10_nthOf 0 = .ok (.iconst 0, 1) := by decide +kernel
theorem dX10_nthOf_1 : decode cX10_nthOf 1 = .ok (.istore_n 3, 1) := by decide +kernel
theorem dX10_nthOf_2 : decode cX10_nthOf 2 = .ok (.iconst 0, 1) := by decide +kernel
theorem dX10_nthOf_3 : decode cX10_nthOf 3 = .ok (.istore 4, 2) := by decide +kernel
theorem dX10_nthOf_5 : decode cX10_nthOf 5 = .ok (.iload 4, 2) := by decide +kernel
theorem dX10_nthOf_7 : decode cX10_nthOf 7 = .ok (.aload_n 0, 1) := by decide +kernel
theorem dX10_nthOf_8 : decode cX10_nthOf 8 = .ok (.getfield 9, 3) := by decide +kernel
theorem dX10_nthOf_11 : decode cX10_nthOf 11 = .ok (.iconst 2, 1) := by decide +kernel
theorem dX10_nthOf_12 : decode cX10_nthOf 12 = .ok (.iaload, 1) := by decide +kernel
theorem dX10_nthOf_13 : decode cX10_nthOf 13 = .ok (.if_icmp .ge 33, 3) := by decide +kernel
theorem dX10_nthOf_16 : decode cX10_nthOf 16 = .ok (.aload_n 0, 1) := by decide +kernel
theorem dX10_nthOf_17 : decode cX10_nthOf 17 = .ok (.iload_n 1, 1) := by decide +kernel
theorem dX10_nthOf_18 : decode cX10_nthOf 18 = .ok (.iload 4, 2) := by decide +kernel
theorem dX10_nthOf_20 : decode cX10_nthOf 20 = .ok (.invokevirtual 316, 3) := by decide +kernel
theorem dX10_nthOf_23 : decode cX10_nthOf 23 = .ok (.ifCond .ne 6, 3) := by decide +kernel
theorem dX10_nthOf_26 : decode cX10_nthOf 26 = .ok (.goto 14, 3) := by decide +kernel
theorem dX10_nthOf_29 : decode cX10_nthOf 29 = .ok (.iload_n 3, 1) := by decide +kernel
theorem dX10_nthOf_30 : decode cX10_nthOf 30 = .ok (.iload_n 2, 1) := by decide +kernel
theorem dX10_nthOf_31 : decode cX10_nthOf 31 = .ok (.if_icmp .ne 6, 3) := by decide +kernel
theorem dX10_nthOf_34 : decode cX10_nthOf 34 = .ok (.iload 4, 2) := by decide +kernel
theorem dX10_nthOf_36 : decode cX10_nthOf 36 = .ok (.ireturn, 1) := by decide +kernel
theorem dX10_nthOf_37 : decode cX10_nthOf 37 = .ok (.iinc 3 1, 3) := by decide +kernel
theorem dX10_nthOf_40 : decode cX10_nthOf 40 = .ok (.iinc 4 1, 3) := by decide +kernel
theorem dX10_nthOf_43 : decode cX10_nthOf 43 = .ok (.goto (-38), 3) := by decide +kernel
theorem dX10_nthOf_46 : decode cX10_nthOf 46 = .ok (.iconst (-1), 1) := by decide +kernel
theorem dX10_nthOf_47 : decode cX10_nthOf 47 = .ok (.ireturn, 1) := by decide +kernel
theorem hd_yX10_nthOf : yX10_nthOf.cls = RX10 ∧ yX10_nthOf.cls ≠ "java/lang/invoke/MethodHandle" ∧ yX10_nthOf.cls ≠ "java/lang/invoke/VarHandle" ∧ (parseMethodDescriptor yX10_nthOf.desc).map (fun d => d.parameters.length) = some 2 := by decide +kernel
def uX10_nthOf : List Cond := List.cons (.code yX10_nthOf cX10_nthOf 5 (some .int)) (HAppend.hAppend ([.fieldLink RX10 9 "LuckyTicketModel" "world" "[I", .methodLink RX10 316 yX10_isLucky, .instanceMethod yX10_isLucky, .selects RX10 yX10_isLucky yX10_isLucky, .initialized RX10] : List Cond) (HAppend.hAppend uX10_isLucky wsX100))
theorem iX10_nthOf_X10 : ∀ w ∈ wsX100, w ∈ uX10_nthOf := fun _ h => (List.mem_cons_of_mem _ (List.mem_append_right _ (List.mem_append_right _ h)))
theorem guX10_nthOf : GU uX10_nthOf := gu_cons (gu_app (by decide +kernel) (gu_ap guX10_isLucky gws_X10))
theorem gX10_nthOf__X10_isLucky_V316 : GoodIn uX10_nthOf (wsV RX10 316 RX10 yX10_isLucky uX10_isLucky) := gin_V (List.mem_of_getElem? (i := 2) rfl) (List.mem_of_getElem? (i := 3) rfl) (List.mem_of_getElem? (i := 4) rfl) (List.mem_of_getElem? (i := 5) rfl) (fun _ h => (List.mem_cons_of_mem _ (List.mem_append_right _ (List.mem_append_left _ h)))) guX10_isLucky
set_option maxHeartbeats 4000000 in
set_option maxRecDepth 100000 in
theorem kX10_nthOf (l : Launch) (dC : Nat → ClassId) (dI : Nat → Nat → Nat) (o0 : Nat) (x_th : Int32) (mwo : Nat) (mim : Nat) (mhi : Nat) (mlu : Nat) (mtp : Nat) (x_td : Int32) (mfv : Nat) (x_sz : Int32) (x_at : Int32) (x_fr : Int32) (x_to : Int32) (x_va : Int32) (x_fk : Int32) (x_fp : Int32) (mfr : Nat) (mwt : Nat) (x_wt : Int32) (x_op : Int32) (x_jo : Int32) (mfg : Nat) (mpl : Nat) (x_dr : Int64) (mtm : Nat) (mfa : Nat) (mqu : Nat) (mmo : Nat) (mwy : Nat) (mwn : Nat) (mma : Nat) (mwi : Nat) (mnu : Nat) (mmv : Nat) (c_wo : ClassId) (c_lu : ClassId) (w_wo : Nat → Int32) (w_lu : Nat → Int32) (ln : Int32) (bs : Int32) (tk : Int32) (lw : Int32) (li : Int32) (a1 : Int32) (a2 : Int32) (b_ln : (0 : Int) ≤ ln.toInt ∧ ln.toInt ≤ 12) (b_bs : (0 : Int) ≤ bs.toInt ∧ bs.toInt ≤ 16) (b_tk : (0 : Int) ≤ tk.toInt ∧ tk.toInt ≤ 20000) (b_lw : (0 : Int) ≤ lw.toInt ∧ lw.toInt ≤ 9) (hw0 : w_wo 0 = ln) (hw1 : w_wo 1 = bs) (hw2 : w_wo 2 = tk) (hw3 : w_wo 3 = lw) (hw4 : w_wo 4 = li) (hwz : (ln.toInt = 0 ∧ bs.toInt = 0 ∧ tk.toInt = 0 ∧ lw.toInt = 0) ∨ (1 ≤ ln.toInt ∧ 2 ≤ bs.toInt ∧ 1 ≤ tk.toInt)) : Met l yX10_nthOf uX10_nthOf ({ frames := 1, cells := 0, slots := 0, locals := 22 }) (va_Pc [.ref o0, .int a1, .int a2] (pw (dC, dI) vwCl [(o0, .inr (8, [.int x_th, .ref mwo, .ref mim, .ref mhi, .ref mlu, .ref mtp, .int x_td, .ref mfv, .int x_sz, .int x_at, .int x_fr, .int x_to, .int x_va, .int x_fk, .int x_fp, .ref mfr, .ref mwt, .int x_wt, .int x_op, .int x_jo, .ref mfg, .ref mpl, .long x_dr, .ref mtm, .ref mfa, .ref mqu, .ref mmo, .ref mwy, .ref mwn, .ref mma, .ref mwi, .ref mnu, .ref mmv])), (mwo, .inl (c_wo, 1875, .inl w_wo)), (mlu, .inl (c_lu, 20000, .inl w_lu))] [(c_wo, .int), (c_lu, .int)])) (vp_Si (fun r => ((-1 : Int) ≤ r.toInt ∧ r.toInt ≤ 19999))) 0 0 (fun _ => False) := by
  refine Met.ofW (cc := cX10_nthOf) (maxL := 5) (ret := (some .int)) pn_X10 rfl ?_
  intro p e s m args below meth c s₁ B hml hv
  obtain ⟨rfl, hP, hK, hN⟩ := hv
  have hx := B.exec
  have hb := B.bytes
  have hr := B.returns
  have hts := atoms_spec (ws := uX10_nthOf) B.pre
  have hown : s.vm.findClass RX10 = some m.cls := hown_of B.named rfl
  have hlocks := B.notSynchronized
  have hl := lv_entry ([.ref o0, .int a1, .int a2]) (n := 5) (Nat.le_of_ble_eq_true rfl)
  rw [lg_entry_eq]
  generalize (lg_sl ([.ref o0, .int a1, .int a2]) ++ List.replicate (5 - (lg_sl ([.ref o0, .int a1, .int a2])).length) Slot.unset).toArray = ls at hl ⊢
  have hl : lv_has ls 5 [(0, .ref o0), (1, .int a1), (2, .int a2)] := hl
  refine lv_iconst (v := 0) hx hb dX10_nthOf_0 (by decide) ?_
  refine lv_istore_n (lv' := [(3, .int 0), (0, .ref o0), (1, .int a1), (2, .int a2)]) hx hb dX10_nthOf_1 rfl hl (by decide) rfl (fun ls hl => ?_)
  refine lv_iconst (v := 0) hx hb dX10_nthOf_2 (by decide) ?_
  refine lv_istore (lv' := [(4, .int 0), (3, .int 0), (0, .ref o0), (1, .int a1), (2, .int a2)]) hx hb dX10_nthOf_3 hl (by decide) rfl (fun ls hl => ?_)
  refine loopP (σ := Int32 × Int32) (fun v => (20000 - v.1.toInt).toNat) (fun v ls => ((0 : Int) ≤ v.1.toInt ∧ v.1.toInt ≤ 20000) ∧ lv_has ls 5 [(4, .int v.1), (3, .int v.2), (0, .ref o0), (1, .int a1), (2, .int a2)]) (fun v ls hI ih_5_268 => ?_) ((0 : Int32), (0 : Int32)) ⟨(show (0 : Int) ≤ (0 : Int32).toInt ∧ (0 : Int32).toInt ≤ 20000 from (rg_w (by decide : (0 : Int) ≤ (0 : Int32).toInt ∧ (0 : Int32).toInt ≤ 0) (by decide) (by decide))), lv_sub hl [0, 1, 2, 3, 4] rfl⟩
  obtain ⟨y_147, y_148⟩ := v
  obtain ⟨b_y_147, hl⟩ := hI
  have b_y_147 : (0 : Int) ≤ y_147.toInt ∧ y_147.toInt ≤ 20000 := b_y_147
  have hl : lv_has ls 5 [(4, .int y_147), (3, .int y_148), (0, .ref o0), (1, .int a1), (2, .int a2)] := hl
  refine lv_iload hx hb dX10_nthOf_5 (lv_at hl 0 rfl) ?_
  refine lv_aload_n hx hb dX10_nthOf_7 rfl (lv_at hl 2 rfl) ?_
  refine va_get (D := (dC, dI)) (ci := 8) (v := .ref mwo) (C := RX10) (T := TX10) (N := 33) hx hb hts iX10_nthOf_X10 hown hK hP 0 rfl rfl 1 (by decide) (hts (.fieldLink RX10 9 "LuckyTicketModel" "world" "[I") (List.mem_of_getElem? (i := 1) rfl)) (fun _ h9 => h9) rfl dX10_nthOf_8 ?_
  refine lv_iconst (v := 2) hx hb dX10_nthOf_11 (by decide) ?_
  refine va_iald hx hb hK hP 1 0 rfl rfl (vp_in_b (by decide : (2 : Int) ≤ (2 : Int32).toInt ∧ (2 : Int32).toInt ≤ 2) (by decide) (by decide)) dX10_nthOf_12 ?_
  refine lv_topi (fun z_269 e_z_269 => ?_)
  obtain rfl : tk = z_269 := (e_z_269.trans hw2).symm
  refine lv_icmp_ge (tgt := 46) hx hb dX10_nthOf_13 (by decide) (fun c_270 => ?_) (fun c_270 => ?_)
  ·
    have n_c_270 : (tk.toInt : Int) ≤ y_147.toInt := c_ge rfl rfl c_270
    refine lv_iconst (v := (-1)) hx hb dX10_nthOf_46 (by decide) ?_
    exact W.iret (v := (-1)) hx hb hr (fun t ht hW => ⟨(-1), rfl, (rg_w (by decide : (-1 : Int) ≤ ((-1) : Int32).toInt ∧ ((-1) : Int32).toInt ≤ -1) (by decide) (by decide)), ht⟩) t_nil dX10_nthOf_47
  ·
    have n_c_270 : (y_147.toInt : Int) < tk.toInt := c_nge rfl rfl c_270
    have b_y_147 : (0 : Int) ≤ y_147.toInt ∧ y_147.toInt ≤ 19999 := r_lt1 b_y_147 b_tk n_c_270 (by decide)
    have b_tk : (1 : Int) ≤ tk.toInt ∧ tk.toInt ≤ 20000 := r_lt2 b_y_147 b_tk n_c_270 (by decide)
    refine lv_aload_n hx hb dX10_nthOf_16 rfl (lv_at hl 2 rfl) ?_
    refine lv_iload_n hx hb dX10_nthOf_17 rfl (lv_at hl 3 rfl) ?_
    refine lv_iload hx hb dX10_nthOf_18 (lv_at hl 0 rfl) ?_
    refine vp_callSi (W.runV (As := [.int a1, .int y_147]) (rest := []) ⟨hx, hb, hml, hown, hts⟩ (kX10_isLucky l dC dI o0 x_th mwo mim mhi mlu mtp x_td mfv x_sz x_at x_fr x_to x_va x_fk x_fp mfr mwt x_wt x_op x_jo mfg mpl x_dr mtm mfa mqu mmo mwy mwn mma mwi mnu mmv c_wo c_lu w_wo w_lu ln bs tk lw li a1 y_147 b_ln b_bs (rg_w b_tk (by decide) (by decide)) b_lw b_y_147 (hw0) (hw1) (hw2) (hw3) (hw4) (hwz)) (cwV 2 hts gX10_nthOf__X10_isLucky_V316 rfl rfl rfl hd_yX10_isLucky ⟨lel 1 1 rfl, lel 22 22 rfl⟩) ⟨pw_fb, rcv_X10 hK hP (q0 := 0) rfl, (pw_use hP hK hN [0, 1, 2] rfl [0, 1] rfl)⟩ rfl rfl hl.1 rfl (lv_room (Nat.le_of_ble_eq_true rfl)) dX10_nthOf_20 ⟨lel 0 0 rfl, lel 0 0 rfl⟩) (fun r_271 h_r_271 => ?_)
    have b_r_271 := h_r_271
    have b_r_271 : (0 : Int) ≤ r_271.toInt ∧ r_271.toInt ≤ 1 := b_r_271
    refine lv_if_ne (tgt := 29) hx hb dX10_nthOf_23 (by decide) (fun c_272 => ?_) (fun c_272 => ?_)
    ·
      have n_c_272 : (r_271.toInt : Int) ≠ 0 := c_ne rfl (by decide) c_272
      have b_r_271 : (1 : Int) ≤ r_271.toInt ∧ r_271.toInt ≤ 1 := r_ne1 b_r_271 (by decide : (0 : Int) ≤ (0 : Int32).toInt ∧ (0 : Int32).toInt ≤ 0) n_c_272 (by decide)
      refine lv_iload_n hx hb dX10_nthOf_29 rfl (lv_at hl 1 rfl) ?_
      refine lv_iload_n hx hb dX10_nthOf_30 rfl (lv_at hl 4 rfl) ?_
      refine lv_icmp_ne (tgt := 37) hx hb dX10_nthOf_31 (by decide) (fun c_273 => ?_) (fun c_273 => ?_)
      ·
        have n_c_273 : (y_148.toInt : Int) ≠ a2.toInt := c_ne rfl rfl c_273
        obtain ⟨z_274, e_z_274⟩ : ∃ y : Int32, y = y_148 + 1 := ⟨_, rfl⟩
        refine lv_iinc (v := z_274) (lv' := [(3, .int z_274), (4, .int y_147), (0, .ref o0), (1, .int a1), (2, .int a2)]) hx hb dX10_nthOf_37 hl (k := 1) rfl (by rw [e_z_274]; rfl) (by decide) rfl (fun ls hl => ?_)
        obtain ⟨z_275, e_z_275⟩ : ∃ y : Int32, y = y_147 + 1 := ⟨_, rfl⟩
        refine lv_iinc (v := z_275) (lv' := [(4, .int z_275), (3, .int z_274), (0, .ref o0), (1, .int a1), (2, .int a2)]) hx hb dX10_nthOf_40 hl (k := 1) rfl (by rw [e_z_275]; rfl) (by decide) rfl (fun ls hl => ?_)
        obtain ⟨q_z_275, b_z_275⟩ := ti_add (lo := 1) (hi := 20000) e_z_275 rfl (by decide : (1 : Int32).toInt = 1) b_y_147 (by decide : (1 : Int) ≤ (1 : Int32).toInt ∧ (1 : Int32).toInt ≤ 1) (by decide)
        refine lv_goto (tgt := 5) hx hb dX10_nthOf_43 (by decide) ?_
        exact ih_5_268 (z_275, z_274) _ ⟨(show (0 : Int) ≤ z_275.toInt ∧ z_275.toInt ≤ 20000 from (rg_w b_z_275 (by decide) (by decide))), lv_sub hl [0, 1, 2, 3, 4] rfl⟩ (show (20000 - z_275.toInt).toNat < (20000 - y_147.toInt).toNat by omega)
      ·
        have n_c_273 : (y_148.toInt : Int) = a2.toInt := c_eq rfl rfl c_273
        refine lv_iload hx hb dX10_nthOf_34 (lv_at hl 0 rfl) ?_
        exact W.iret (v := y_147) hx hb hr (fun t ht hW => ⟨y_147, rfl, (rg_w b_y_147 (by decide) (by decide)), ht⟩) t_nil dX10_nthOf_36
    ·
      have n_c_272 : (r_271.toInt : Int) = 0 := c_eq rfl (by decide) c_272
      have b_r_271 : (0 : Int) ≤ r_271.toInt ∧ r_271.toInt ≤ 0 := r_eq1 b_r_271 (by decide : (0 : Int) ≤ (0 : Int32).toInt ∧ (0 : Int32).toInt ≤ 0) n_c_272 (by decide)
      refine lv_goto (tgt := 40) hx hb dX10_nthOf_26 (by decide) ?_
      obtain ⟨z_276, e_z_276⟩ : ∃ y : Int32, y = y_147 + 1 := ⟨_, rfl⟩
      refine lv_iinc (v := z_276) (lv' := [(4, .int z_276), (3, .int y_148), (0, .ref o0), (1, .int a1), (2, .int a2)]) hx hb dX10_nthOf_40 hl (k := 0) rfl (by rw [e_z_276]; rfl) (by decide) rfl (fun ls hl => ?_)
      obtain ⟨q_z_276, b_z_276⟩ := ti_add (lo := 1) (hi := 20000) e_z_276 rfl (by decide : (1 : Int32).toInt = 1) b_y_147 (by decide : (1 : Int) ≤ (1 : Int32).toInt ∧ (1 : Int32).toInt ≤ 1) (by decide)
      refine lv_goto (tgt := 5) hx hb dX10_nthOf_43 (by decide) ?_
      exact ih_5_268 (z_276, y_148) _ ⟨(show (0 : Int) ≤ z_276.toInt ∧ z_276.toInt ≤ 20000 from (rg_w b_z_276 (by decide) (by decide))), lv_sub hl [0, 1, 2, 3, 4] rfl⟩ (show (20000 - z_276.toInt).toNat < (20000 - y_147.toInt).toNat by omega)
theorem dX10_nth_0 : decode cX10_nth 0 = .ok (.aload_n 0, 1) := by decide +kernel
theorem dX10_nth_1 : decode cX10_nth 1 = .ok (.iload_n 1, 1) := by decide +kernel
theorem dX10_nth_2 : decode cX10_nth 2 = .ok (.invokevirtual 89, 3) := by decide +kernel
theorem dX10_nth_5 : decode cX10_nth 5 = .ok (.ifCond .eq 12, 3) := by decide +kernel
theorem dX10_nth_8 : decode cX10_nth 8 = .ok (.aload_n 0, 1) := by decide +kernel
theorem dX10_nth_9 : decode cX10_nth 9 = .ok (.iload_n 1, 1) := by decide +kernel
theorem dX10_nth_10 : decode cX10_nth 10 = .ok (.iload_n 2, 1) := by decide +kernel
theorem dX10_nth_11 : decode cX10_nth 11 = .ok (.invokevirtual 331, 3) := by decide +kernel
theorem dX10_nth_14 : decode cX10_nth 14 = .ok (.goto 5, 3) := by decide +kernel
theorem dX10_nth_17 : decode cX10_nth 17 = .ok (.bipush (-2), 2) := by decide +kernel
theorem dX10_nth_19 : decode cX10_nth 19 = .ok (.ireturn, 1) := by decide +kernel
theorem hd_yX10_nth : yX10_nth.cls = RX10 ∧ yX10_nth.cls ≠ "java/lang/invoke/MethodHandle" ∧ yX10_nth.cls ≠ "java/lang/invoke/VarHandle" ∧ (parseMethodDescriptor yX10_nth.desc).map (fun d => d.parameters.length) = some 2 := by decide +kernel
def uX10_nth : List Cond := List.cons (.code yX10_nth cX10_nth 3 (some .int)) (HAppend.hAppend ([.methodLink RX10 89 yX10_isLaw, .instanceMethod yX10_isLaw, .selects RX10 yX10_isLaw yX10_isLaw, .initialized RX10, .methodLink RX10 331 yX10_nthOf, .instanceMethod yX10_nthOf, .selects RX10 yX10_nthOf yX10_nthOf] : List Cond) (HAppend.hAppend uX10_isLaw uX10_nthOf))
theorem guX10_nth : GU uX10_nth := gu_cons (gu_app (by decide +kernel) (gu_ap guX10_isLaw guX10_nthOf))
theorem gX10_nth__X10_isLaw_V89 : GoodIn uX10_nth (wsV RX10 89 RX10 yX10_isLaw uX10_isLaw) := gin_V (List.mem_of_getElem? (i := 1) rfl) (List.mem_of_getElem? (i := 2) rfl) (List.mem_of_getElem? (i := 3) rfl) (List.mem_of_getElem? (i := 4) rfl) (fun _ h => (List.mem_cons_of_mem _ (List.mem_append_right _ (List.mem_append_left _ h)))) guX10_isLaw
theorem gX10_nth__X10_nthOf_V331 : GoodIn uX10_nth (wsV RX10 331 RX10 yX10_nthOf uX10_nthOf) := gin_V (List.mem_of_getElem? (i := 5) rfl) (List.mem_of_getElem? (i := 6) rfl) (List.mem_of_getElem? (i := 7) rfl) (List.mem_of_getElem? (i := 4) rfl) (fun _ h => (List.mem_cons_of_mem _ (List.mem_append_right _ (List.mem_append_right _ h)))) guX10_nthOf
set_option maxHeartbeats 4000000 in
set_option maxRecDepth 100000 in
theorem kX10_nth (l : Launch) (dC : Nat → ClassId) (dI : Nat → Nat → Nat) (o0 : Nat) (x_th : Int32) (mwo : Nat) (mim : Nat) (mhi : Nat) (mlu : Nat) (mtp : Nat) (x_td : Int32) (mfv : Nat) (x_sz : Int32) (x_at : Int32) (x_fr : Int32) (x_to : Int32) (x_va : Int32) (x_fk : Int32) (x_fp : Int32) (mfr : Nat) (mwt : Nat) (x_wt : Int32) (x_op : Int32) (x_jo : Int32) (mfg : Nat) (mpl : Nat) (x_dr : Int64) (mtm : Nat) (mfa : Nat) (mqu : Nat) (mmo : Nat) (mwy : Nat) (mwn : Nat) (mma : Nat) (mwi : Nat) (mnu : Nat) (mmv : Nat) (c_wo : ClassId) (c_lu : ClassId) (w_wo : Nat → Int32) (w_lu : Nat → Int32) (ln : Int32) (bs : Int32) (tk : Int32) (lw : Int32) (li : Int32) (a1 : Int32) (a2 : Int32) (b_ln : (0 : Int) ≤ ln.toInt ∧ ln.toInt ≤ 12) (b_bs : (0 : Int) ≤ bs.toInt ∧ bs.toInt ≤ 16) (b_tk : (0 : Int) ≤ tk.toInt ∧ tk.toInt ≤ 20000) (b_lw : (0 : Int) ≤ lw.toInt ∧ lw.toInt ≤ 9) (hw0 : w_wo 0 = ln) (hw1 : w_wo 1 = bs) (hw2 : w_wo 2 = tk) (hw3 : w_wo 3 = lw) (hw4 : w_wo 4 = li) (hwz : (ln.toInt = 0 ∧ bs.toInt = 0 ∧ tk.toInt = 0 ∧ lw.toInt = 0) ∨ (1 ≤ ln.toInt ∧ 2 ≤ bs.toInt ∧ 1 ≤ tk.toInt)) : Met l yX10_nth uX10_nth ({ frames := 2, cells := 0, slots := 0, locals := 46 }) (va_Pc [.ref o0, .int a1, .int a2] (pw (dC, dI) vwCl [(o0, .inr (8, [.int x_th, .ref mwo, .ref mim, .ref mhi, .ref mlu, .ref mtp, .int x_td, .ref mfv, .int x_sz, .int x_at, .int x_fr, .int x_to, .int x_va, .int x_fk, .int x_fp, .ref mfr, .ref mwt, .int x_wt, .int x_op, .int x_jo, .ref mfg, .ref mpl, .long x_dr, .ref mtm, .ref mfa, .ref mqu, .ref mmo, .ref mwy, .ref mwn, .ref mma, .ref mwi, .ref mnu, .ref mmv])), (mwo, .inl (c_wo, 1875, .inl w_wo)), (mlu, .inl (c_lu, 20000, .inl w_lu))] [(c_wo, .int), (c_lu, .int)])) (vp_Si (fun r => ((-2 : Int) ≤ r.toInt ∧ r.toInt ≤ 19999))) 0 0 (fun _ => False) := by
  refine Met.ofW (cc := cX10_nth) (maxL := 3) (ret := (some .int)) pn_X10 rfl ?_
  intro p e s m args below meth c s₁ B hml hv
  obtain ⟨rfl, hP, hK, hN⟩ := hv
  have hx := B.exec
  have hb := B.bytes
  have hr := B.returns
  have hts := atoms_spec (ws := uX10_nth) B.pre
  have hown : s.vm.findClass RX10 = some m.cls := hown_of B.named rfl
  have hlocks := B.notSynchronized
  have hl := lv_entry ([.ref o0, .int a1, .int a2]) (n := 3) (Nat.le_of_ble_eq_true rfl)
  rw [lg_entry_eq]
  generalize (lg_sl ([.ref o0, .int a1, .int a2]) ++ List.replicate (3 - (lg_sl ([.ref o0, .int a1, .int a2])).length) Slot.unset).toArray = ls at hl ⊢
  have hl : lv_has ls 3 [(0, .ref o0), (1, .int a1), (2, .int a2)] := hl
  refine lv_aload_n hx hb dX10_nth_0 rfl (lv_at hl 0 rfl) ?_
  refine lv_iload_n hx hb dX10_nth_1 rfl (lv_at hl 1 rfl) ?_
  refine vp_callSi (W.runV (As := [.int a1]) (rest := []) ⟨hx, hb, hml, hown, hts⟩ (kX10_isLaw l dC dI o0 x_th mwo mim mhi mlu mtp x_td mfv x_sz x_at x_fr x_to x_va x_fk x_fp mfr mwt x_wt x_op x_jo mfg mpl x_dr mtm mfa mqu mmo mwy mwn mma mwi mnu mmv c_wo w_wo ln bs tk lw li a1 b_ln b_bs b_tk b_lw (hw0) (hw1) (hw2) (hw3) (hw4) (hwz)) (cwV 1 hts gX10_nth__X10_isLaw_V89 rfl rfl rfl hd_yX10_isLaw ⟨lel 2 2 rfl, lel 46 46 rfl⟩) ⟨pw_fb, rcv_X10 hK hP (q0 := 0) rfl, (pw_use hP hK hN [0, 1] rfl [0] rfl)⟩ rfl rfl hl.1 rfl (lv_room (Nat.le_of_ble_eq_true rfl)) dX10_nth_2 ⟨lel 0 0 rfl, lel 0 0 rfl⟩) (fun r_5 h_r_5 => ?_)
  obtain ⟨b_r_5, nz_r_5⟩ := h_r_5
  have b_r_5 : (0 : Int) ≤ r_5.toInt ∧ r_5.toInt ≤ 1 := b_r_5
  refine lv_if_eq (tgt := 17) hx hb dX10_nth_5 (by decide) (fun c_6 => ?_) (fun c_6 => ?_)
  ·
    have n_c_6 : (r_5.toInt : Int) = 0 := c_eq rfl (by decide) c_6
    have b_r_5 : (0 : Int) ≤ r_5.toInt ∧ r_5.toInt ≤ 0 := r_eq1 b_r_5 (by decide : (0 : Int) ≤ (0 : Int32).toInt ∧ (0 : Int32).toInt ≤ 0) n_c_6 (by decide)
    refine lv_bipush (v := (-2)) hx hb dX10_nth_17 (by decide) ?_
    exact W.iret (v := (-2)) hx hb hr (fun t ht hW => ⟨(-2), rfl, (rg_w (by decide : (-2 : Int) ≤ ((-2) : Int32).toInt ∧ ((-2) : Int32).toInt ≤ -2) (by decide) (by decide)), ht⟩) t_nil dX10_nth_19
  ·
    have n_c_6 : (r_5.toInt : Int) ≠ 0 := c_ne rfl (by decide) c_6
    have b_r_5 : (1 : Int) ≤ r_5.toInt ∧ r_5.toInt ≤ 1 := r_ne1 b_r_5 (by decide : (0 : Int) ≤ (0 : Int32).toInt ∧ (0 : Int32).toInt ≤ 0) n_c_6 (by decide)
    obtain ⟨b_a1, g_7⟩ := nz_r_5 c_6
    refine lv_aload_n hx hb dX10_nth_8 rfl (lv_at hl 0 rfl) ?_
    refine lv_iload_n hx hb dX10_nth_9 rfl (lv_at hl 1 rfl) ?_
    refine lv_iload_n hx hb dX10_nth_10 rfl (lv_at hl 2 rfl) ?_
    refine vp_callSi (W.runV (As := [.int a1, .int a2]) (rest := []) ⟨hx, hb, hml, hown, hts⟩ (kX10_nthOf l dC dI o0 x_th mwo mim mhi mlu mtp x_td mfv x_sz x_at x_fr x_to x_va x_fk x_fp mfr mwt x_wt x_op x_jo mfg mpl x_dr mtm mfa mqu mmo mwy mwn mma mwi mnu mmv c_wo c_lu w_wo w_lu ln bs tk lw li a1 a2 b_ln b_bs b_tk b_lw (hw0) (hw1) (hw2) (hw3) (hw4) (hwz)) (cwV 2 hts gX10_nth__X10_nthOf_V331 rfl rfl rfl hd_yX10_nthOf ⟨lel 2 2 rfl, lel 46 46 rfl⟩) ⟨pw_fb, rcv_X10 hK hP (q0 := 0) rfl, (pw_use hP hK hN [0, 1, 2] rfl [0, 1] rfl)⟩ rfl rfl hl.1 rfl (lv_room (Nat.le_of_ble_eq_true rfl)) dX10_nth_11 ⟨lel 0 0 rfl, lel 0 0 rfl⟩) (fun r_8 h_r_8 => ?_)
    have b_r_8 := h_r_8
    have b_r_8 : (-1 : Int) ≤ r_8.toInt ∧ r_8.toInt ≤ 19999 := b_r_8
    refine lv_goto (tgt := 19) hx hb dX10_nth_14 (by decide) ?_
    exact W.iret (v := r_8) hx hb hr (fun t ht hW => ⟨r_8, rfl, (rg_w b_r_8 (by decide) (by decide)), ht⟩) t_nil dX10_nth_19
theorem dX10_gap_0 : decode cX10_gap 0 = .ok (.aload_n 0, 1) := by decide +kernel
theorem dX10_gap_1 : decode cX10_gap 1 = .ok (.iload_n 1, 1) := by decide +kernel
theorem dX10_gap_2 : decode cX10_gap 2 = .ok (.invokevirtual 89, 3) := by decide +kernel
theorem dX10_gap_5 : decode cX10_gap 5 = .ok (.ifCond .eq 13, 3) := by decide +kernel
theorem dX10_gap_8 : decode cX10_gap 8 = .ok (.iload_n 2, 1) := by decide +kernel
theorem dX10_gap_9 : decode cX10_gap 9 = .ok (.i2l, 1) := by decide +kernel
theorem dX10_gap_10 : decode cX10_gap 10 = .ok (.lconst 0, 1) := by decide +kernel
theorem dX10_gap_11 : decode cX10_gap 11 = .ok (.lconst 1, 1) := by decide +kernel
theorem dX10_gap_12 : decode cX10_gap 12 = .ok (.invokestatic 82, 3) := by decide +kernel
theorem dX10_gap_15 : decode cX10_gap 15 = .ok (.ifCond .ne 6, 3) := by decide +kernel
theorem dX10_gap_18 : decode cX10_gap 18 = .ok (.bipush (-2), 2) := by decide +kernel
theorem dX10_gap_20 : decode cX10_gap 20 = .ok (.ireturn, 1) := by decide +kernel
theorem dX10_gap_21 : decode cX10_gap 21 = .ok (.iconst (-1), 1) := by decide +kernel
theorem dX10_gap_22 : decode cX10_gap 22 = .ok (.istore_n 3, 1) := by decide +kernel
theorem dX10_gap_23 : decode cX10_gap 23 = .ok (.iconst (-1), 1) := by decide +kernel
theorem dX10_gap_24 : decode cX10_gap 24 = .ok (.istore 4, 2) := by decide +kernel
theorem dX10_gap_26 : decode cX10_gap 26 = .ok (.aload_n 0, 1) := by decide +kernel
theorem dX10_gap_27 : decode cX10_gap 27 = .ok (.iload_n 1, 1) := by decide +kernel
theorem dX10_gap_28 : decode cX10_gap 28 = .ok (.iconst 0, 1) := by decide +kernel
theorem dX10_gap_29 : decode cX10_gap 29 = .ok (.invokevirtual 325, 3) := by decide +kernel
theorem dX10_gap_32 : decode cX10_gap 32 = .ok (.istore 5, 2) := by decide +kernel
theorem dX10_gap_34 : decode cX10_gap 34 = .ok (.iload 5, 2) := by decide +kernel
theorem dX10_gap_36 : decode cX10_gap 36 = .ok (.iconst (-1), 1) := by decide +kernel
theorem dX10_gap_37 : decode cX10_gap 37 = .ok (.if_icmp .eq 50, 3) := by decide +kernel
theorem dX10_gap_40 : decode cX10_gap 40 = .ok (.aload_n 0, 1) := by decide +kernel
theorem dX10_gap_41 : decode cX10_gap 41 = .ok (.iload_n 1, 1) := by decide +kernel
theorem dX10_gap_42 : decode cX10_gap 42 = .ok (.iload 5, 2) := by decide +kernel
theorem dX10_gap_44 : decode cX10_gap 44 = .ok (.iconst 1, 1) := by decide +kernel
theorem dX10_gap_45 : decode cX10_gap 45 = .ok (.iadd, 1) := by decide +kernel
theorem dX10_gap_46 : decode cX10_gap 46 = .ok (.invokevirtual 325, 3) := by decide +kernel
theorem dX10_gap_49 : decode cX10_gap 49 = .ok (.istore 6, 2) := by decide +kernel
theorem dX10_gap_51 : decode cX10_gap 51 = .ok (.iload 6, 2) := by decide +kernel
theorem dX10_gap_53 : decode cX10_gap 53 = .ok (.iconst (-1), 1) := by decide +kernel
theorem dX10_gap_54 : decode cX10_gap 54 = .ok (.if_icmp .eq 26, 3) := by decide +kernel
theorem dX10_gap_57 : decode cX10_gap 57 = .ok (.iload 6, 2) := by decide +kernel
theorem dX10_gap_59 : decode cX10_gap 59 = .ok (.iload 5, 2) := by decide +kernel
theorem dX10_gap_61 : decode cX10_gap 61 = .ok (.isub, 1) := by decide +kernel
theorem dX10_gap_62 : decode cX10_gap 62 = .ok (.iconst 1, 1) := by decide +kernel
theorem dX10_gap_63 : decode cX10_gap 63 = .ok (.isub, 1) := by decide +kernel
theorem dX10_gap_64 : decode cX10_gap 64 = .ok (.iload_n 3, 1) := by decide +kernel
theorem dX10_gap_65 : decode cX10_gap 65 = .ok (.if_icmp .le 15, 3) := by decide +kernel
theorem dX10_gap_68 : decode cX10_gap 68 = .ok (.iload 6, 2) := by decide +kernel
theorem dX10_gap_70 : decode cX10_gap 70 = .ok (.iload 5, 2) := by decide +kernel
theorem dX10_gap_72 : decode cX10_gap 72 = .ok (.isub, 1) := by decide +kernel
theorem dX10_gap_73 : decode cX10_gap 73 = .ok (.iconst 1, 1) := by decide +kernel
theorem dX10_gap_74 : decode cX10_gap 74 = .ok (.isub, 1) := by decide +kernel
theorem dX10_gap_75 : decode cX10_gap 75 = .ok (.istore_n 3, 1) := by decide +kernel
theorem dX10_gap_76 : decode cX10_gap 76 = .ok (.iload 5, 2) := by decide +kernel
theorem dX10_gap_78 : decode cX10_gap 78 = .ok (.istore 4, 2) := by decide +kernel
theorem dX10_gap_80 : decode cX10_gap 80 = .ok (.iload 6, 2) := by decide +kernel
theorem dX10_gap_82 : decode cX10_gap 82 = .ok (.istore 5, 2) := by decide +kernel
theorem dX10_gap_84 : decode cX10_gap 84 = .ok (.goto (-50), 3) := by decide +kernel
theorem dX10_gap_87 : decode cX10_gap 87 = .ok (.iload_n 2, 1) := by decide +kernel
theorem dX10_gap_88 : decode cX10_gap 88 = .ok (.ifCond .ne 7, 3) := by decide +kernel
theorem dX10_gap_91 : decode cX10_gap 91 = .ok (.iload_n 3, 1) := by decide +kernel
theorem dX10_gap_92 : decode cX10_gap 92 = .ok (.goto 5, 3) := by decide +kernel
theorem dX10_gap_95 : decode cX10_gap 95 = .ok (.iload 4, 2) := by decide +kernel
theorem dX10_gap_97 : decode cX10_gap 97 = .ok (.ireturn, 1) := by decide +kernel
theorem hd_yX10_gap : yX10_gap.cls = RX10 ∧ yX10_gap.cls ≠ "java/lang/invoke/MethodHandle" ∧ yX10_gap.cls ≠ "java/lang/invoke/VarHandle" ∧ (parseMethodDescriptor yX10_gap.desc).map (fun d => d.parameters.length) = some 2 := by decide +kernel
def uX10_gap : List Cond := List.cons (.code yX10_gap cX10_gap 7 (some .int)) (HAppend.hAppend ([.methodLink RX10 89 yX10_isLaw, .instanceMethod yX10_isLaw, .selects RX10 yX10_isLaw yX10_isLaw, .initialized RX10, .methodLink RX10 82 yX10_in, .static yX10_in, .methodLink RX10 325 yX10_nextOf, .instanceMethod yX10_nextOf, .selects RX10 yX10_nextOf yX10_nextOf] : List Cond) (HAppend.hAppend uX10_isLaw (HAppend.hAppend uX10_in uX10_nextOf)))
theorem guX10_gap : GU uX10_gap := gu_cons (gu_app (by decide +kernel) (gu_ap guX10_isLaw (gu_ap guX10_in guX10_nextOf)))
theorem gX10_gap__X10_isLaw_V89 : GoodIn uX10_gap (wsV RX10 89 RX10 yX10_isLaw uX10_isLaw) := gin_V (List.mem_of_getElem? (i := 1) rfl) (List.mem_of_getElem? (i := 2) rfl) (List.mem_of_getElem? (i := 3) rfl) (List.mem_of_getElem? (i := 4) rfl) (fun _ h => (List.mem_cons_of_mem _ (List.mem_append_right _ (List.mem_append_left _ h)))) guX10_isLaw
theorem gX10_gap__X10_in_S82 : GoodIn uX10_gap (va_wsS RX10 82 yX10_in uX10_in) := gin_S (List.mem_of_getElem? (i := 5) rfl) (List.mem_of_getElem? (i := 6) rfl) (List.mem_of_getElem? (i := 4) rfl) (fun _ h => (List.mem_cons_of_mem _ (List.mem_append_right _ (List.mem_append_right _ (List.mem_append_left _ h))))) guX10_in
theorem gX10_gap__X10_nextOf_V325 : GoodIn uX10_gap (wsV RX10 325 RX10 yX10_nextOf uX10_nextOf) := gin_V (List.mem_of_getElem? (i := 7) rfl) (List.mem_of_getElem? (i := 8) rfl) (List.mem_of_getElem? (i := 9) rfl) (List.mem_of_getElem? (i := 4) rfl) (fun _ h => (List.mem_cons_of_mem _ (List.mem_append_right _ (List.mem_append_right _ (List.mem_append_right _ h))))) guX10_nextOf
set_option maxHeartbeats 4000000 in
set_option maxRecDepth 100000 in
theorem kX10_gap (l : Launch) (dC : Nat → ClassId) (dI : Nat → Nat → Nat) (o0 : Nat) (x_th : Int32) (mwo : Nat) (mim : Nat) (mhi : Nat) (mlu : Nat) (mtp : Nat) (x_td : Int32) (mfv : Nat) (x_sz : Int32) (x_at : Int32) (x_fr : Int32) (x_to : Int32) (x_va : Int32) (x_fk : Int32) (x_fp : Int32) (mfr : Nat) (mwt : Nat) (x_wt : Int32) (x_op : Int32) (x_jo : Int32) (mfg : Nat) (mpl : Nat) (x_dr : Int64) (mtm : Nat) (mfa : Nat) (mqu : Nat) (mmo : Nat) (mwy : Nat) (mwn : Nat) (mma : Nat) (mwi : Nat) (mnu : Nat) (mmv : Nat) (c_wo : ClassId) (c_lu : ClassId) (w_wo : Nat → Int32) (w_lu : Nat → Int32) (ln : Int32) (bs : Int32) (tk : Int32) (lw : Int32) (li : Int32) (a1 : Int32) (a2 : Int32) (b_ln : (0 : Int) ≤ ln.toInt ∧ ln.toInt ≤ 12) (b_bs : (0 : Int) ≤ bs.toInt ∧ bs.toInt ≤ 16) (b_tk : (0 : Int) ≤ tk.toInt ∧ tk.toInt ≤ 20000) (b_lw : (0 : Int) ≤ lw.toInt ∧ lw.toInt ≤ 9) (hw0 : w_wo 0 = ln) (hw1 : w_wo 1 = bs) (hw2 : w_wo 2 = tk) (hw3 : w_wo 3 = lw) (hw4 : w_wo 4 = li) (hwz : (ln.toInt = 0 ∧ bs.toInt = 0 ∧ tk.toInt = 0 ∧ lw.toInt = 0) ∨ (1 ≤ ln.toInt ∧ 2 ≤ bs.toInt ∧ 1 ≤ tk.toInt)) : Met l yX10_gap uX10_gap ({ frames := 2, cells := 0, slots := 0, locals := 46 }) (va_Pc [.ref o0, .int a1, .int a2] (pw (dC, dI) vwCl [(o0, .inr (8, [.int x_th, .ref mwo, .ref mim, .ref mhi, .ref mlu, .ref mtp, .int x_td, .ref mfv, .int x_sz, .int x_at, .int x_fr, .int x_to, .int x_va, .int x_fk, .int x_fp, .ref mfr, .ref mwt, .int x_wt, .int x_op, .int x_jo, .ref mfg, .ref mpl, .long x_dr, .ref mtm, .ref mfa, .ref mqu, .ref mmo, .ref mwy, .ref mwn, .ref mma, .ref mwi, .ref mnu, .ref mmv])), (mwo, .inl (c_wo, 1875, .inl w_wo)), (mlu, .inl (c_lu, 20000, .inl w_lu))] [(c_wo, .int), (c_lu, .int)])) (vp_Si (fun r => ((-20000 : Int) ≤ r.toInt ∧ r.toInt ≤ 19999))) 0 0 (fun _ => False) := by
  refine Met.ofW (cc := cX10_gap) (maxL := 7) (ret := (some .int)) pn_X10 rfl ?_
  intro p e s m args below meth c s₁ B hml hv
  obtain ⟨rfl, hP, hK, hN⟩ := hv
  have hx := B.exec
  have hb := B.bytes
  have hr := B.returns
  have hts := atoms_spec (ws := uX10_gap) B.pre
  have hown : s.vm.findClass RX10 = some m.cls := hown_of B.named rfl
  have hlocks := B.notSynchronized
  have hl := lv_entry ([.ref o0, .int a1, .int a2]) (n := 7) (Nat.le_of_ble_eq_true rfl)
  rw [lg_entry_eq]
  generalize (lg_sl ([.ref o0, .int a1, .int a2]) ++ List.replicate (7 - (lg_sl ([.ref o0, .int a1, .int a2])).length) Slot.unset).toArray = ls at hl ⊢
  have hl : lv_has ls 7 [(0, .ref o0), (1, .int a1), (2, .int a2)] := hl
  refine lv_aload_n hx hb dX10_gap_0 rfl (lv_at hl 0 rfl) ?_
  refine lv_iload_n hx hb dX10_gap_1 rfl (lv_at hl 1 rfl) ?_
  refine vp_callSi (W.runV (As := [.int a1]) (rest := []) ⟨hx, hb, hml, hown, hts⟩ (kX10_isLaw l dC dI o0 x_th mwo mim mhi mlu mtp x_td mfv x_sz x_at x_fr x_to x_va x_fk x_fp mfr mwt x_wt x_op x_jo mfg mpl x_dr mtm mfa mqu mmo mwy mwn mma mwi mnu mmv c_wo w_wo ln bs tk lw li a1 b_ln b_bs b_tk b_lw (hw0) (hw1) (hw2) (hw3) (hw4) (hwz)) (cwV 1 hts gX10_gap__X10_isLaw_V89 rfl rfl rfl hd_yX10_isLaw ⟨lel 2 2 rfl, lel 46 46 rfl⟩) ⟨pw_fb, rcv_X10 hK hP (q0 := 0) rfl, (pw_use hP hK hN [0, 1] rfl [0] rfl)⟩ rfl rfl hl.1 rfl (lv_room (Nat.le_of_ble_eq_true rfl)) dX10_gap_2 ⟨lel 0 0 rfl, lel 0 0 rfl⟩) (fun r_108 h_r_108 => ?_)
  obtain ⟨b_r_108, nz_r_108⟩ := h_r_108
  have b_r_108 : (0 : Int) ≤ r_108.toInt ∧ r_108.toInt ≤ 1 := b_r_108
  refine lv_if_eq (tgt := 18) hx hb dX10_gap_5 (by decide) (fun c_109 => ?_) (fun c_109 => ?_)
  ·
    have n_c_109 : (r_108.toInt : Int) = 0 := c_eq rfl (by decide) c_109
    have b_r_108 : (0 : Int) ≤ r_108.toInt ∧ r_108.toInt ≤ 0 := r_eq1 b_r_108 (by decide : (0 : Int) ≤ (0 : Int32).toInt ∧ (0 : Int32).toInt ≤ 0) n_c_109 (by decide)
    refine lv_bipush (v := (-2)) hx hb dX10_gap_18 (by decide) ?_
    exact W.iret (v := (-2)) hx hb hr (fun t ht hW => ⟨(-2), rfl, (rg_w (by decide : (-2 : Int) ≤ ((-2) : Int32).toInt ∧ ((-2) : Int32).toInt ≤ -2) (by decide) (by decide)), ht⟩) t_nil dX10_gap_20
  ·
    have n_c_109 : (r_108.toInt : Int) ≠ 0 := c_ne rfl (by decide) c_109
    have b_r_108 : (1 : Int) ≤ r_108.toInt ∧ r_108.toInt ≤ 1 := r_ne1 b_r_108 (by decide : (0 : Int) ≤ (0 : Int32).toInt ∧ (0 : Int32).toInt ≤ 0) n_c_109 (by decide)
    obtain ⟨b_a1, g_110⟩ := nz_r_108 c_109
    refine lv_iload_n hx hb dX10_gap_8 rfl (lv_at hl 2 rfl) ?_
    obtain ⟨z_111, e_z_111⟩ : ∃ y : Int64, y = a2.toInt64 := ⟨_, rfl⟩
    refine lv_i2l (v := z_111) hx hb dX10_gap_9 e_z_111.symm ?_
    obtain ⟨q_z_111, b_z_111⟩ := ti_i2l e_z_111 (ti_rng a2)
    refine lv_lconst (v := 0) hx hb dX10_gap_10 (by decide) ?_
    refine lv_lconst (v := 1) hx hb dX10_gap_11 (by decide) ?_
    refine vp_callSi (W.runS (As := [.long z_111, .long 0, .long 1]) (rest := []) ⟨hx, hb, hml, hown, hts⟩ (kX10_in l dC dI z_111 0 1 ) (va_cwS 3 hts gX10_gap__X10_in_S82 rfl rfl rfl hd_yX10_in.2 ⟨lel 1 2 rfl, lel 25 46 rfl⟩) ⟨pn_fb, pn_use⟩ rfl rfl hl.1 rfl (lv_room (Nat.le_of_ble_eq_true rfl)) dX10_gap_12 ⟨lel 0 0 rfl, lel 0 0 rfl⟩) (fun r_112 h_r_112 => ?_)
    obtain ⟨b_r_112, nz_r_112⟩ := h_r_112
    have b_r_112 : (0 : Int) ≤ r_112.toInt ∧ r_112.toInt ≤ 1 := b_r_112
    refine lv_if_ne (tgt := 21) hx hb dX10_gap_15 (by decide) (fun c_113 => ?_) (fun c_113 => ?_)
    ·
      have n_c_113 : (r_112.toInt : Int) ≠ 0 := c_ne rfl (by decide) c_113
      have b_r_112 : (1 : Int) ≤ r_112.toInt ∧ r_112.toInt ≤ 1 := r_ne1 b_r_112 (by decide : (0 : Int) ≤ (0 : Int32).toInt ∧ (0 : Int32).toInt ≤ 0) n_c_113 (by decide)
      have g_114 := nz_r_112 c_113
      have lt0_g_114 := (by decide : (0 : Int64).toInt = 0)
      have lt1_g_114 := (by decide : (1 : Int64).toInt = 1)
      have b_z_111 : (0 : Int) ≤ z_111.toInt ∧ z_111.toInt ≤ 1 := by
        have q0 := b_z_111
        have q1 := (by decide : (0 : Int) ≤ (0 : Int64).toInt ∧ (0 : Int64).toInt ≤ 0)
        have q2 := (by decide : (1 : Int) ≤ (1 : Int64).toInt ∧ (1 : Int64).toInt ≤ 1)
        omega
      have b_a2 : (0 : Int) ≤ a2.toInt ∧ a2.toInt ≤ 1 := by
        have q0 := b_z_111; have q1 := q_z_111; have q2 := (ti_rng a2); omega
      refine lv_iconst (v := (-1)) hx hb dX10_gap_21 (by decide) ?_
      refine lv_istore_n (lv' := [(3, .int (-1)), (0, .ref o0), (1, .int a1), (2, .int a2)]) hx hb dX10_gap_22 rfl hl (by decide) rfl (fun ls hl => ?_)
      refine lv_iconst (v := (-1)) hx hb dX10_gap_23 (by decide) ?_
      refine lv_istore (lv' := [(4, .int (-1)), (3, .int (-1)), (0, .ref o0), (1, .int a1), (2, .int a2)]) hx hb dX10_gap_24 hl (by decide) rfl (fun ls hl => ?_)
      refine lv_aload_n hx hb dX10_gap_26 rfl (lv_at hl 2 rfl) ?_
      refine lv_iload_n hx hb dX10_gap_27 rfl (lv_at hl 3 rfl) ?_
      refine lv_iconst (v := 0) hx hb dX10_gap_28 (by decide) ?_
      refine vp_callSi (W.runV (As := [.int a1, .int 0]) (rest := []) ⟨hx, hb, hml, hown, hts⟩ (kX10_nextOf l dC dI o0 x_th mwo mim mhi mlu mtp x_td mfv x_sz x_at x_fr x_to x_va x_fk x_fp mfr mwt x_wt x_op x_jo mfg mpl x_dr mtm mfa mqu mmo mwy mwn mma mwi mnu mmv c_wo c_lu w_wo w_lu ln bs tk lw li a1 0 b_ln b_bs b_tk b_lw (rg_w (by decide : (0 : Int) ≤ (0 : Int32).toInt ∧ (0 : Int32).toInt ≤ 0) (by decide) (by decide)) (hw0) (hw1) (hw2) (hw3) (hw4) (hwz)) (cwV 2 hts gX10_gap__X10_nextOf_V325 rfl rfl rfl hd_yX10_nextOf ⟨lel 2 2 rfl, lel 45 46 rfl⟩) ⟨pw_fb, rcv_X10 hK hP (q0 := 0) rfl, (pw_use hP hK hN [0, 1, 2] rfl [0, 1] rfl)⟩ rfl rfl hl.1 rfl (lv_room (Nat.le_of_ble_eq_true rfl)) dX10_gap_29 ⟨lel 0 0 rfl, lel 0 0 rfl⟩) (fun r_115 h_r_115 => ?_)
      obtain ⟨b_r_115, pr_r_115⟩ := h_r_115
      have b_r_115 : (-1 : Int) ≤ r_115.toInt ∧ r_115.toInt ≤ 19999 := b_r_115
      refine lv_istore (lv' := [(5, .int r_115), (4, .int (-1)), (3, .int (-1)), (0, .ref o0), (1, .int a1), (2, .int a2)]) hx hb dX10_gap_32 hl (by decide) rfl (fun ls hl => ?_)
      refine loopP (σ := Int32 × Int32 × Int32) (fun v => (20001 - v.1.toInt % 20002).toNat) (fun v ls => ((-1 : Int) ≤ v.1.toInt ∧ v.1.toInt ≤ 19999) ∧ ((-1 : Int) ≤ v.2.1.toInt ∧ v.2.1.toInt ≤ 19999) ∧ ((-20000 : Int) ≤ v.2.2.toInt ∧ v.2.2.toInt ≤ 19998) ∧ lv_has ls 7 [(5, .int v.1), (4, .int v.2.1), (3, .int v.2.2), (0, .ref o0), (1, .int a1), (2, .int a2)]) (fun v ls hI ih_34_182 => ?_) (r_115, (-1 : Int32), (-1 : Int32)) ⟨(show (-1 : Int) ≤ r_115.toInt ∧ r_115.toInt ≤ 19999 from b_r_115), (show (-1 : Int) ≤ (-1 : Int32).toInt ∧ (-1 : Int32).toInt ≤ 19999 from (rg_w (by decide : (-1 : Int) ≤ ((-1) : Int32).toInt ∧ ((-1) : Int32).toInt ≤ -1) (by decide) (by decide))), (show (-20000 : Int) ≤ (-1 : Int32).toInt ∧ (-1 : Int32).toInt ≤ 19998 from (rg_w (by decide : (-1 : Int) ≤ ((-1) : Int32).toInt ∧ ((-1) : Int32).toInt ≤ -1) (by decide) (by decide))), lv_sub hl [0, 1, 2, 3, 4, 5] rfl⟩
      obtain ⟨y_148, y_149, y_150⟩ := v
      obtain ⟨b_y_148, b_y_149, b_y_150, hl⟩ := hI
      have b_y_148 : (-1 : Int) ≤ y_148.toInt ∧ y_148.toInt ≤ 19999 := b_y_148
      have b_y_149 : (-1 : Int) ≤ y_149.toInt ∧ y_149.toInt ≤ 19999 := b_y_149
      have b_y_150 : (-20000 : Int) ≤ y_150.toInt ∧ y_150.toInt ≤ 19998 := b_y_150
      have hl : lv_has ls 7 [(5, .int y_148), (4, .int y_149), (3, .int y_150), (0, .ref o0), (1, .int a1), (2, .int a2)] := hl
      refine lv_iload hx hb dX10_gap_34 (lv_at hl 0 rfl) ?_
      refine lv_iconst (v := (-1)) hx hb dX10_gap_36 (by decide) ?_
      refine lv_icmp_eq (tgt := 87) hx hb dX10_gap_37 (by decide) (fun c_183 => ?_) (fun c_183 => ?_)
      ·
        have n_c_183 : (y_148.toInt : Int) = (-1) := c_eq rfl (by decide) c_183
        have b_y_148 : (-1 : Int) ≤ y_148.toInt ∧ y_148.toInt ≤ -1 := r_eq1 b_y_148 (by decide : (-1 : Int) ≤ ((-1) : Int32).toInt ∧ ((-1) : Int32).toInt ≤ -1) n_c_183 (by decide)
        refine lv_iload_n hx hb dX10_gap_87 rfl (lv_at hl 5 rfl) ?_
        refine lv_if_ne (tgt := 95) hx hb dX10_gap_88 (by decide) (fun c_199 => ?_) (fun c_199 => ?_)
        ·
          have n_c_199 : (a2.toInt : Int) ≠ 0 := c_ne rfl (by decide) c_199
          have b_a2 : (1 : Int) ≤ a2.toInt ∧ a2.toInt ≤ 1 := r_ne1 b_a2 (by decide : (0 : Int) ≤ (0 : Int32).toInt ∧ (0 : Int32).toInt ≤ 0) n_c_199 (by decide)
          refine lv_iload hx hb dX10_gap_95 (lv_at hl 1 rfl) ?_
          exact W.iret (v := y_149) hx hb hr (fun t ht hW => ⟨y_149, rfl, (rg_w b_y_149 (by decide) (by decide)), ht⟩) t_nil dX10_gap_97
        ·
          have n_c_199 : (a2.toInt : Int) = 0 := c_eq rfl (by decide) c_199
          have b_a2 : (0 : Int) ≤ a2.toInt ∧ a2.toInt ≤ 0 := r_eq1 b_a2 (by decide : (0 : Int) ≤ (0 : Int32).toInt ∧ (0 : Int32).toInt ≤ 0) n_c_199 (by decide)
          refine lv_iload_n hx hb dX10_gap_91 rfl (lv_at hl 2 rfl) ?_
          refine lv_goto (tgt := 97) hx hb dX10_gap_92 (by decide) ?_
          exact W.iret (v := y_150) hx hb hr (fun t ht hW => ⟨y_150, rfl, (rg_w b_y_150 (by decide) (by decide)), ht⟩) t_nil dX10_gap_97
      ·
        have n_c_183 : (y_148.toInt : Int) ≠ (-1) := c_ne rfl (by decide) c_183
        have b_y_148 : (0 : Int) ≤ y_148.toInt ∧ y_148.toInt ≤ 19999 := r_ne1 b_y_148 (by decide : (-1 : Int) ≤ ((-1) : Int32).toInt ∧ ((-1) : Int32).toInt ≤ -1) n_c_183 (by decide)
        refine lv_aload_n hx hb dX10_gap_40 rfl (lv_at hl 3 rfl) ?_
        refine lv_iload_n hx hb dX10_gap_41 rfl (lv_at hl 4 rfl) ?_
        refine lv_iload hx hb dX10_gap_42 (lv_at hl 0 rfl) ?_
        refine lv_iconst (v := 1) hx hb dX10_gap_44 (by decide) ?_
        refine lv_iadd hx hb dX10_gap_45 ?_
        refine lv_topi (fun z_200 e_z_200 => ?_)
        obtain ⟨q_z_200, b_z_200⟩ := ti_add (lo := 1) (hi := 20000) e_z_200 rfl (by decide : (1 : Int32).toInt = 1) b_y_148 (by decide : (1 : Int) ≤ (1 : Int32).toInt ∧ (1 : Int32).toInt ≤ 1) (by decide)
        refine vp_callSi (W.runV (As := [.int a1, .int z_200]) (rest := []) ⟨hx, hb, hml, hown, hts⟩ (kX10_nextOf l dC dI o0 x_th mwo mim mhi mlu mtp x_td mfv x_sz x_at x_fr x_to x_va x_fk x_fp mfr mwt x_wt x_op x_jo mfg mpl x_dr mtm mfa mqu mmo mwy mwn mma mwi mnu mmv c_wo c_lu w_wo w_lu ln bs tk lw li a1 z_200 b_ln b_bs b_tk b_lw (rg_w b_z_200 (by decide) (by decide)) (hw0) (hw1) (hw2) (hw3) (hw4) (hwz)) (cwV 2 hts gX10_gap__X10_nextOf_V325 rfl rfl rfl hd_yX10_nextOf ⟨lel 2 2 rfl, lel 45 46 rfl⟩) ⟨pw_fb, rcv_X10 hK hP (q0 := 0) rfl, (pw_use hP hK hN [0, 1, 2] rfl [0, 1] rfl)⟩ rfl rfl hl.1 rfl (lv_room (Nat.le_of_ble_eq_true rfl)) dX10_gap_46 ⟨lel 0 0 rfl, lel 0 0 rfl⟩) (fun r_201 h_r_201 => ?_)
        obtain ⟨b_r_201, pr_r_201⟩ := h_r_201
        have b_r_201 : (-1 : Int) ≤ r_201.toInt ∧ r_201.toInt ≤ 19999 := b_r_201
        refine lv_istore (lv' := [(6, .int r_201), (5, .int y_148), (4, .int y_149), (3, .int y_150), (0, .ref o0), (1, .int a1), (2, .int a2)]) hx hb dX10_gap_49 hl (by decide) rfl (fun ls hl => ?_)
        refine lv_iload hx hb dX10_gap_51 (lv_at hl 0 rfl) ?_
        refine lv_iconst (v := (-1)) hx hb dX10_gap_53 (by decide) ?_
        refine cutP (σ := Int32 × Int32) (pc2 := 80) (st2 := fun v => []) (cells2 := 0) (slots2 := 0) (fun v ls => ((-1 : Int) ≤ v.1.toInt ∧ v.1.toInt ≤ 19999) ∧ ((-20000 : Int) ≤ v.2.toInt ∧ v.2.toInt ≤ 19998) ∧ lv_has ls 7 [(6, .int r_201), (5, .int y_148), (4, .int v.1), (3, .int v.2), (0, .ref o0), (1, .int a1), (2, .int a2)]) (fun v ls hI => ?_) (fun hj_80_209 => ?_)
        ·
          obtain ⟨y_208, y_209⟩ := v
          obtain ⟨b_y_208, b_y_209, hl⟩ := hI
          have b_y_208 : (-1 : Int) ≤ y_208.toInt ∧ y_208.toInt ≤ 19999 := b_y_208
          have b_y_209 : (-20000 : Int) ≤ y_209.toInt ∧ y_209.toInt ≤ 19998 := b_y_209
          have hl : lv_has ls 7 [(6, .int r_201), (5, .int y_148), (4, .int y_208), (3, .int y_209), (0, .ref o0), (1, .int a1), (2, .int a2)] := hl
          refine lv_iload hx hb dX10_gap_80 (lv_at hl 0 rfl) ?_
          refine lv_istore (lv' := [(5, .int r_201), (6, .int r_201), (4, .int y_208), (3, .int y_209), (0, .ref o0), (1, .int a1), (2, .int a2)]) hx hb dX10_gap_82 hl (by decide) rfl (fun ls hl => ?_)
          refine lv_goto (tgt := 34) hx hb dX10_gap_84 (by decide) ?_
          exact ih_34_182 (r_201, y_208, y_209) _ ⟨(show (-1 : Int) ≤ r_201.toInt ∧ r_201.toInt ≤ 19999 from b_r_201), (show (-1 : Int) ≤ y_208.toInt ∧ y_208.toInt ≤ 19999 from b_y_208), (show (-20000 : Int) ≤ y_209.toInt ∧ y_209.toInt ≤ 19998 from b_y_209), lv_sub hl [0, 2, 3, 4, 5, 6] rfl⟩ (show (20001 - r_201.toInt % 20002).toNat < (20001 - y_148.toInt % 20002).toNat by omega)
        ·
          refine lv_icmp_eq (tgt := 80) hx hb dX10_gap_54 (by decide) (fun c_202 => ?_) (fun c_202 => ?_)
          ·
            have n_c_202 : (r_201.toInt : Int) = (-1) := c_eq rfl (by decide) c_202
            have b_r_201 : (-1 : Int) ≤ r_201.toInt ∧ r_201.toInt ≤ -1 := r_eq1 b_r_201 (by decide : (-1 : Int) ≤ ((-1) : Int32).toInt ∧ ((-1) : Int32).toInt ≤ -1) n_c_202 (by decide)
            exact hj_80_209 (y_149, y_150) _ ⟨(show (-1 : Int) ≤ y_149.toInt ∧ y_149.toInt ≤ 19999 from b_y_149), (show (-20000 : Int) ≤ y_150.toInt ∧ y_150.toInt ≤ 19998 from b_y_150), lv_sub hl [0, 1, 2, 3, 4, 5, 6] rfl⟩
          ·
            have n_c_202 : (r_201.toInt : Int) ≠ (-1) := c_ne rfl (by decide) c_202
            have b_r_201 : (0 : Int) ≤ r_201.toInt ∧ r_201.toInt ≤ 19999 := r_ne1 b_r_201 (by decide : (-1 : Int) ≤ ((-1) : Int32).toInt ∧ ((-1) : Int32).toInt ≤ -1) n_c_202 (by decide)
            refine lv_iload hx hb dX10_gap_57 (lv_at hl 0 rfl) ?_
            refine lv_iload hx hb dX10_gap_59 (lv_at hl 1 rfl) ?_
            refine lv_isub hx hb dX10_gap_61 ?_
            refine lv_topi (fun z_210 e_z_210 => ?_)
            obtain ⟨q_z_210, b_z_210⟩ := ti_sub (lo := -19999) (hi := 19999) e_z_210 rfl rfl b_r_201 b_y_148 (by decide)
            refine lv_iconst (v := 1) hx hb dX10_gap_62 (by decide) ?_
            refine lv_isub hx hb dX10_gap_63 ?_
            refine lv_topi (fun z_211 e_z_211 => ?_)
            obtain ⟨q_z_211, b_z_211⟩ := ti_sub (lo := -20000) (hi := 19998) e_z_211 rfl (by decide : (1 : Int32).toInt = 1) b_z_210 (by decide : (1 : Int) ≤ (1 : Int32).toInt ∧ (1 : Int32).toInt ≤ 1) (by decide)
            refine lv_iload_n hx hb dX10_gap_64 rfl (lv_at hl 3 rfl) ?_
            refine lv_icmp_le (tgt := 80) hx hb dX10_gap_65 (by decide) (fun c_212 => ?_) (fun c_212 => ?_)
            ·
              have n_c_212 : (z_211.toInt : Int) ≤ y_150.toInt := c_le rfl rfl c_212
              exact hj_80_209 (y_149, y_150) _ ⟨(show (-1 : Int) ≤ y_149.toInt ∧ y_149.toInt ≤ 19999 from b_y_149), (show (-20000 : Int) ≤ y_150.toInt ∧ y_150.toInt ≤ 19998 from b_y_150), lv_sub hl [0, 1, 2, 3, 4, 5, 6] rfl⟩
            ·
              have n_c_212 : (y_150.toInt : Int) < z_211.toInt := c_nle rfl rfl c_212
              have b_y_150 : (-20000 : Int) ≤ y_150.toInt ∧ y_150.toInt ≤ 19997 := r_lt1 b_y_150 b_z_211 n_c_212 (by decide)
              have b_z_211 : (-19999 : Int) ≤ z_211.toInt ∧ z_211.toInt ≤ 19998 := r_lt2 b_y_150 b_z_211 n_c_212 (by decide)
              refine lv_iload hx hb dX10_gap_68 (lv_at hl 0 rfl) ?_
              refine lv_iload hx hb dX10_gap_70 (lv_at hl 1 rfl) ?_
              refine lv_isub hx hb dX10_gap_72 ?_
              refine lv_topi (fun z_213 e_z_213 => ?_)
              obtain ⟨q_z_213, b_z_213⟩ := ti_sub (lo := -19999) (hi := 19999) e_z_213 rfl rfl b_r_201 b_y_148 (by decide)
              refine lv_iconst (v := 1) hx hb dX10_gap_73 (by decide) ?_
              refine lv_isub hx hb dX10_gap_74 ?_
              refine lv_topi (fun z_214 e_z_214 => ?_)
              obtain ⟨q_z_214, b_z_214⟩ := ti_sub (lo := -20000) (hi := 19998) e_z_214 rfl (by decide : (1 : Int32).toInt = 1) b_z_213 (by decide : (1 : Int) ≤ (1 : Int32).toInt ∧ (1 : Int32).toInt ≤ 1) (by decide)
              refine lv_istore_n (lv' := [(3, .int z_214), (6, .int r_201), (5, .int y_148), (4, .int y_149), (0, .ref o0), (1, .int a1), (2, .int a2)]) hx hb dX10_gap_75 rfl hl (by decide) rfl (fun ls hl => ?_)
              refine lv_iload hx hb dX10_gap_76 (lv_at hl 2 rfl) ?_
              refine lv_istore (lv' := [(4, .int y_148), (3, .int z_214), (6, .int r_201), (5, .int y_148), (0, .ref o0), (1, .int a1), (2, .int a2)]) hx hb dX10_gap_78 hl (by decide) rfl (fun ls hl => ?_)
              exact hj_80_209 (y_148, z_214) _ ⟨(show (-1 : Int) ≤ y_148.toInt ∧ y_148.toInt ≤ 19999 from (rg_w b_y_148 (by decide) (by decide))), (show (-20000 : Int) ≤ z_214.toInt ∧ z_214.toInt ≤ 19998 from b_z_214), lv_sub hl [2, 3, 0, 1, 4, 5, 6] rfl⟩
    ·
      have n_c_113 : (r_112.toInt : Int) = 0 := c_eq rfl (by decide) c_113
      have b_r_112 : (0 : Int) ≤ r_112.toInt ∧ r_112.toInt ≤ 0 := r_eq1 b_r_112 (by decide : (0 : Int) ≤ (0 : Int32).toInt ∧ (0 : Int32).toInt ≤ 0) n_c_113 (by decide)
      refine lv_bipush (v := (-2)) hx hb dX10_gap_18 (by decide) ?_
      exact W.iret (v := (-2)) hx hb hr (fun t ht hW => ⟨(-2), rfl, (rg_w (by decide : (-2 : Int) ≤ ((-2) : Int32).toInt ∧ ((-2) : Int32).toInt ≤ -2) (by decide) (by decide)), ht⟩) t_nil dX10_gap_20
theorem dX10_goesOn_0 : decode cX10_goesOn 0 = .ok (.iload_n 1, 1) := by decide +kernel
theorem dX10_goesOn_1 : decode cX10_goesOn 1 = .ok (.i2l, 1) := by decide +kernel
theorem dX10_goesOn_2 : decode cX10_goesOn 2 = .ok (.iload_n 2, 1) := by decide +kernel
theorem dX10_goesOn_3 : decode cX10_goesOn 3 = .ok (.i2l, 1) := by decide +kernel
theorem dX10_goesOn_4 : decode cX10_goesOn 4 = .ok (.ladd, 1) := by decide +kernel
theorem dX10_goesOn_5 : decode cX10_goesOn 5 = .ok (.aload_n 0, 1) := by decide +kernel
theorem dX10_goesOn_6 : decode cX10_goesOn 6 = .ok (.getfield 9, 3) := by decide +kernel
theorem dX10_goesOn_9 : decode cX10_goesOn 9 = .ok (.iconst 2, 1) := by decide +kernel
theorem dX10_goesOn_10 : decode cX10_goesOn 10 = .ok (.iaload, 1) := by decide +kernel
theorem dX10_goesOn_11 : decode cX10_goesOn 11 = .ok (.i2l, 1) := by decide +kernel
theorem dX10_goesOn_12 : decode cX10_goesOn 12 = .ok (.lrem, 1) := by decide +kernel
theorem dX10_goesOn_13 : decode cX10_goesOn 13 = .ok (.l2i, 1) := by decide +kernel
theorem dX10_goesOn_14 : decode cX10_goesOn 14 = .ok (.ireturn, 1) := by decide +kernel
theorem hd_yX10_goesOn : yX10_goesOn.cls = RX10 ∧ yX10_goesOn.cls ≠ "java/lang/invoke/MethodHandle" ∧ yX10_goesOn.cls ≠ "java/lang/invoke/VarHandle" ∧ (parseMethodDescriptor yX10_goesOn.desc).map (fun d => d.parameters.length) = some 2 := by decide +kernel
def uX10_goesOn : List Cond := List.cons (.code yX10_goesOn cX10_goesOn 3 (some .int)) (HAppend.hAppend ([.fieldLink RX10 9 "LuckyTicketModel" "world" "[I"] : List Cond) wsX100)
theorem iX10_goesOn_X10 : ∀ w ∈ wsX100, w ∈ uX10_goesOn := fun _ h => (List.mem_cons_of_mem _ (List.mem_append_right _ h))
theorem guX10_goesOn : GU uX10_goesOn := gu_cons (gu_app (by decide +kernel) gws_X10)
set_option maxHeartbeats 4000000 in
set_option maxRecDepth 100000 in
theorem kX10_goesOn (l : Launch) (dC : Nat → ClassId) (dI : Nat → Nat → Nat) (o0 : Nat) (x_th : Int32) (mwo : Nat) (mim : Nat) (mhi : Nat) (mlu : Nat) (mtp : Nat) (x_td : Int32) (mfv : Nat) (x_sz : Int32) (x_at : Int32) (x_fr : Int32) (x_to : Int32) (x_va : Int32) (x_fk : Int32) (x_fp : Int32) (mfr : Nat) (mwt : Nat) (x_wt : Int32) (x_op : Int32) (x_jo : Int32) (mfg : Nat) (mpl : Nat) (x_dr : Int64) (mtm : Nat) (mfa : Nat) (mqu : Nat) (mmo : Nat) (mwy : Nat) (mwn : Nat) (mma : Nat) (mwi : Nat) (mnu : Nat) (mmv : Nat) (c_wo : ClassId) (w_wo : Nat → Int32) (ln : Int32) (bs : Int32) (tk : Int32) (lw : Int32) (li : Int32) (a1 : Int32) (a2 : Int32) (b_ln : (0 : Int) ≤ ln.toInt ∧ ln.toInt ≤ 12) (b_bs : (0 : Int) ≤ bs.toInt ∧ bs.toInt ≤ 16) (b_tk : (0 : Int) ≤ tk.toInt ∧ tk.toInt ≤ 20000) (b_lw : (0 : Int) ≤ lw.toInt ∧ lw.toInt ≤ 9) (b_a1 : (0 : Int) ≤ a1.toInt ∧ a1.toInt ≤ 19999) (b_a2 : (1 : Int) ≤ a2.toInt ∧ a2.toInt ≤ 9999) (hw0 : w_wo 0 = ln) (hw1 : w_wo 1 = bs) (hw2 : w_wo 2 = tk) (hw3 : w_wo 3 = lw) (hw4 : w_wo 4 = li) (hwz : (ln.toInt = 0 ∧ bs.toInt = 0 ∧ tk.toInt = 0 ∧ lw.toInt = 0) ∨ (1 ≤ ln.toInt ∧ 2 ≤ bs.toInt ∧ 1 ≤ tk.toInt)) (htk : 1 ≤ tk.toInt) : Met l yX10_goesOn uX10_goesOn ({ frames := 0, cells := 0, slots := 0, locals := 0 }) (va_Pc [.ref o0, .int a1, .int a2] (pw (dC, dI) vwCl [(o0, .inr (8, [.int x_th, .ref mwo, .ref mim, .ref mhi, .ref mlu, .ref mtp, .int x_td, .ref mfv, .int x_sz, .int x_at, .int x_fr, .int x_to, .int x_va, .int x_fk, .int x_fp, .ref mfr, .ref mwt, .int x_wt, .int x_op, .int x_jo, .ref mfg, .ref mpl, .long x_dr, .ref mtm, .ref mfa, .ref mqu, .ref mmo, .ref mwy, .ref mwn, .ref mma, .ref mwi, .ref mnu, .ref mmv])), (mwo, .inl (c_wo, 1875, .inl w_wo))] [(c_wo, .int)])) (vp_Si (fun r => ((0 : Int) ≤ r.toInt ∧ r.toInt ≤ 19999))) 0 0 (fun _ => False) := by
  refine Met.ofW (cc := cX10_goesOn) (maxL := 3) (ret := (some .int)) pn_X10 rfl ?_
  intro p e s m args below meth c s₁ B hml hv
  obtain ⟨rfl, hP, hK, hN⟩ := hv
  have hx := B.exec
  have hb := B.bytes
  have hr := B.returns
  have hts := atoms_spec (ws := uX10_goesOn) B.pre
  have hown : s.vm.findClass RX10 = some m.cls := hown_of B.named rfl
  have hlocks := B.notSynchronized
  have hl := lv_entry ([.ref o0, .int a1, .int a2]) (n := 3) (Nat.le_of_ble_eq_true rfl)
  rw [lg_entry_eq]
  generalize (lg_sl ([.ref o0, .int a1, .int a2]) ++ List.replicate (3 - (lg_sl ([.ref o0, .int a1, .int a2])).length) Slot.unset).toArray = ls at hl ⊢
  have hl : lv_has ls 3 [(0, .ref o0), (1, .int a1), (2, .int a2)] := hl
  refine lv_iload_n hx hb dX10_goesOn_0 rfl (lv_at hl 1 rfl) ?_
  obtain ⟨z_8, e_z_8⟩ : ∃ y : Int64, y = a1.toInt64 := ⟨_, rfl⟩
  refine lv_i2l (v := z_8) hx hb dX10_goesOn_1 e_z_8.symm ?_
  obtain ⟨q_z_8, b_z_8⟩ := ti_i2l e_z_8 b_a1
  refine lv_iload_n hx hb dX10_goesOn_2 rfl (lv_at hl 2 rfl) ?_
  obtain ⟨z_9, e_z_9⟩ : ∃ y : Int64, y = a2.toInt64 := ⟨_, rfl⟩
  refine lv_i2l (v := z_9) hx hb dX10_goesOn_3 e_z_9.symm ?_
  obtain ⟨q_z_9, b_z_9⟩ := ti_i2l e_z_9 b_a2
  refine lv_ladd hx hb dX10_goesOn_4 ?_
  refine lv_topl (fun z_10 e_z_10 => ?_)
  obtain ⟨q_z_10, b_z_10⟩ := tl_add (lo := 1) (hi := 29998) e_z_10 rfl rfl b_z_8 b_z_9 (by decide)
  refine lv_aload_n hx hb dX10_goesOn_5 rfl (lv_at hl 0 rfl) ?_
  refine va_get (D := (dC, dI)) (ci := 8) (v := .ref mwo) (C := RX10) (T := TX10) (N := 33) hx hb hts iX10_goesOn_X10 hown hK hP 0 rfl rfl 1 (by decide) (hts (.fieldLink RX10 9 "LuckyTicketModel" "world" "[I") (List.mem_of_getElem? (i := 1) rfl)) (fun _ h9 => h9) rfl dX10_goesOn_6 ?_
  refine lv_iconst (v := 2) hx hb dX10_goesOn_9 (by decide) ?_
  refine va_iald hx hb hK hP 1 0 rfl rfl (vp_in_b (by decide : (2 : Int) ≤ (2 : Int32).toInt ∧ (2 : Int32).toInt ≤ 2) (by decide) (by decide)) dX10_goesOn_10 ?_
  refine lv_topi (fun z_11 e_z_11 => ?_)
  obtain rfl : tk = z_11 := (e_z_11.trans hw2).symm
  obtain ⟨z_12, e_z_12⟩ : ∃ y : Int64, y = tk.toInt64 := ⟨_, rfl⟩
  refine lv_i2l (v := z_12) hx hb dX10_goesOn_11 e_z_12.symm ?_
  obtain ⟨q_z_12, b_z_12⟩ := ti_i2l e_z_12 b_tk
  have b_z_12 : (1 : Int) ≤ z_12.toInt ∧ z_12.toInt ≤ 20000 := ⟨by omega, (b_z_12).2⟩
  refine lv_lrem hx hb dX10_goesOn_12 (tl_ne b_z_12 (by decide)) ?_
  refine lv_topl (fun z_13 e_z_13 => ?_)
  obtain ⟨q_z_13, b_z_13⟩ := tl_rem (hi := 19999) e_z_13 rfl rfl b_z_10 b_z_12 (by decide)
  obtain ⟨z_14, e_z_14⟩ : ∃ y : Int32, y = z_13.toInt32 := ⟨_, rfl⟩
  refine lv_l2i (v := z_14) hx hb dX10_goesOn_13 e_z_14.symm ?_
  obtain ⟨q_z_14, b_z_14⟩ := ti_l2i e_z_14 b_z_13 (by decide)
  exact W.iret (v := z_14) hx hb hr (fun t ht hW => ⟨z_14, rfl, b_z_14, ht⟩) t_nil dX10_goesOn_14
