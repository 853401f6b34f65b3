theorem dX10_fillFigures_0 : decode cX10_fillFigures 0 = .ok (.iload_n 1, 1) := by decide +kernel
theorem dX10_fillFigures_1 : decode cX10_fillFigures 1 = .ok (.istore_n 2, 1) := by decide +kernel
theorem dX10_fillFigures_2 : decode cX10_fillFigures 2 = .ok (.aload_n 0, 1) := by decide +kernel
theorem dX10_fillFigures_3 : decode cX10_fillFigures 3 = .ok (.getfield 9, 3) := by decide +kernel
theorem dX10_fillFigures_6 : decode cX10_fillFigures 6 = .ok (.iconst 0, 1) := by decide +kernel
theorem dX10_fillFigures_7 : decode cX10_fillFigures 7 = .ok (.iaload, 1) := by decide +kernel
theorem dX10_fillFigures_8 : decode cX10_fillFigures 8 = .ok (.iconst 1, 1) := by decide +kernel
theorem dX10_fillFigures_9 : decode cX10_fillFigures 9 = .ok (.isub, 1) := by decide +kernel
theorem dX10_fillFigures_10 : decode cX10_fillFigures 10 = .ok (.istore_n 3, 1) := by decide +kernel
theorem dX10_fillFigures_11 : decode cX10_fillFigures 11 = .ok (.iload_n 3, 1) := by decide +kernel
theorem dX10_fillFigures_12 : decode cX10_fillFigures 12 = .ok (.ifCond .lt 32, 3) := by decide +kernel
theorem dX10_fillFigures_15 : decode cX10_fillFigures 15 = .ok (.aload_n 0, 1) := by decide +kernel
theorem dX10_fillFigures_16 : decode cX10_fillFigures 16 = .ok (.getfield 40, 3) := by decide +kernel
theorem dX10_fillFigures_19 : decode cX10_fillFigures 19 = .ok (.iload_n 3, 1) := by decide +kernel
theorem dX10_fillFigures_20 : decode cX10_fillFigures 20 = .ok (.iload_n 2, 1) := by decide +kernel
theorem dX10_fillFigures_21 : decode cX10_fillFigures 21 = .ok (.aload_n 0, 1) := by decide +kernel
theorem dX10_fillFigures_22 : decode cX10_fillFigures 22 = .ok (.getfield 9, 3) := by decide +kernel
theorem dX10_fillFigures_25 : decode cX10_fillFigures 25 = .ok (.iconst 1, 1) := by decide +kernel
theorem dX10_fillFigures_26 : decode cX10_fillFigures 26 = .ok (.iaload, 1) := by decide +kernel
theorem dX10_fillFigures_27 : decode cX10_fillFigures 27 = .ok (.irem, 1) := by decide +kernel
theorem dX10_fillFigures_28 : decode cX10_fillFigures 28 = .ok (.iastore, 1) := by decide +kernel
theorem dX10_fillFigures_29 : decode cX10_fillFigures 29 = .ok (.iload_n 2, 1) := by decide +kernel
theorem dX10_fillFigures_30 : decode cX10_fillFigures 30 = .ok (.aload_n 0, 1) := by decide +kernel
theorem dX10_fillFigures_31 : decode cX10_fillFigures 31 = .ok (.getfield 9, 3) := by decide +kernel
theorem dX10_fillFigures_34 : decode cX10_fillFigures 34 = .ok (.iconst 1, 1) := by decide +kernel
theorem dX10_fillFigures_35 : decode cX10_fillFigures 35 = .ok (.iaload, 1) := by decide +kernel
theorem dX10_fillFigures_36 : decode cX10_fillFigures 36 = .ok (.idiv, 1) := by decide +kernel
theorem dX10_fillFigures_37 : decode cX10_fillFigures 37 = .ok (.istore_n 2, 1) := by decide +kernel
theorem dX10_fillFigures_38 : decode cX10_fillFigures 38 = .ok (.iinc 3 (-1), 3) := by decide +kernel
theorem dX10_fillFigures_41 : decode cX10_fillFigures 41 = .ok (.goto (-30), 3) := by decide +kernel
theorem dX10_fillFigures_44 : decode cX10_fillFigures 44 = .ok (.return_, 1) := by decide +kernel
theorem hd_yX10_fillFigures : yX10_fillFigures.cls = RX10 ∧ yX10_fillFigures.cls ≠ "java/lang/invoke/MethodHandle" ∧ yX10_fillFigures.cls ≠ "java/lang/invoke/VarHandle" ∧ (parseMethodDescriptor yX10_fillFigures.desc).map (fun d => d.parameters.length) = some 1 := by decide +kernel
def uX10_fillFigures : List Cond := List.cons (.code yX10_fillFigures cX10_fillFigures 4 none) (HAppend.hAppend ([.fieldLink RX10 9 "LuckyTicketModel" "world" "[I", .fieldLink RX10 40 "LuckyTicketModel" "figures" "[I"] : List Cond) wsX100)
theorem iX10_fillFigures_X10 : ∀ w ∈ wsX100, w ∈ uX10_fillFigures := fun _ h => (List.mem_cons_of_mem _ (List.mem_append_right _ h))
theorem guX10_fillFigures : GU uX10_fillFigures := gu_cons (gu_app (by decide +kernel) gws_X10)
set_option maxHeartbeats 4000000 in
set_option maxRecDepth 100000 in
theorem kX10_fillFigures (l : Launch) (dC : Nat → ClassId) (dI : Nat → Nat → Nat) (o0 : Nat) (x_th : Int32) (mwo : Nat) (mim : Nat) (mhi : Nat) (mlu : Nat) (mtp : Nat) (x_td : Int32) (mfv : Nat) (x_sz : Int32) (x_at : Int32) (x_fr : Int32) (x_to : Int32) (x_va : Int32) (x_fk : Int32) (x_fp : Int32) (mfr : Nat) (mwt : Nat) (x_wt : Int32) (x_op : Int32) (x_jo : Int32) (mfg : Nat) (mpl : Nat) (x_dr : Int64) (mtm : Nat) (mfa : Nat) (mqu : Nat) (mmo : Nat) (mwy : Nat) (mwn : Nat) (mma : Nat) (mwi : Nat) (mnu : Nat) (mmv : Nat) (c_wo : ClassId) (c_fg : ClassId) (w_wo : Nat → Int32) (w_fg : Nat → Int32) (ln : Int32) (bs : Int32) (tk : Int32) (lw : Int32) (li : Int32) (a1 : Int32) (sz : Nat) (b_ln : (0 : Int) ≤ ln.toInt ∧ ln.toInt ≤ 12) (b_bs : (0 : Int) ≤ bs.toInt ∧ bs.toInt ≤ 16) (b_tk : (0 : Int) ≤ tk.toInt ∧ tk.toInt ≤ 20000) (b_lw : (0 : Int) ≤ lw.toInt ∧ lw.toInt ≤ 9) (b_a1 : (0 : Int) ≤ a1.toInt ∧ a1.toInt ≤ 19999) (ha_mfg : rg w_fg 12 0 15) (hw0 : w_wo 0 = ln) (hw1 : w_wo 1 = bs) (hw2 : w_wo 2 = tk) (hw3 : w_wo 3 = lw) (hw4 : w_wo 4 = li) (hwz : (ln.toInt = 0 ∧ bs.toInt = 0 ∧ tk.toInt = 0 ∧ lw.toInt = 0) ∨ (1 ≤ ln.toInt ∧ 2 ≤ bs.toInt ∧ 1 ≤ tk.toInt)) : Met l yX10_fillFigures uX10_fillFigures ({ frames := 0, cells := 0, slots := 0, locals := 0 }) (va_Pc [.ref o0, .int a1] (hw (dC, dI) vwCl [(o0, .inr (8, [.int x_th, .ref mwo, .ref mim, .ref mhi, .ref mlu, .ref mtp, .int x_td, .ref mfv, .int x_sz, .int x_at, .int x_fr, .int x_to, .int x_va, .int x_fk, .int x_fp, .ref mfr, .ref mwt, .int x_wt, .int x_op, .int x_jo, .ref mfg, .ref mpl, .long x_dr, .ref mtm, .ref mfa, .ref mqu, .ref mmo, .ref mwy, .ref mwn, .ref mma, .ref mwi, .ref mnu, .ref mmv])), (mwo, .inl (c_wo, 1875, .inl w_wo)), (mfg, .inl (c_fg, 12, .inl w_fg))] [(c_wo, .int), (c_fg, .int)] sz)) (va_Qv (fun (_ : Unit) => True) (fun (_ : Unit) t => ∃ (o0_ : Nat → Int32), (rg o0_ 12 0 15) ∧ va_P (dC, dI) vwCl [(o0, .inr (8, [.int x_th, .ref mwo, .ref mim, .ref mhi, .ref mlu, .ref mtp, .int x_td, .ref mfv, .int x_sz, .int x_at, .int x_fr, .int x_to, .int x_va, .int x_fk, .int x_fp, .ref mfr, .ref mwt, .int x_wt, .int x_op, .int x_jo, .ref mfg, .ref mpl, .long x_dr, .ref mtm, .ref mfa, .ref mqu, .ref mmo, .ref mwy, .ref mwn, .ref mma, .ref mwi, .ref mnu, .ref mmv])), (mwo, .inl (c_wo, 1875, .inl w_wo)), (mfg, .inl (c_fg, 12, .inl o0_))] t.heap ∧ va_K (dC, dI) vwCl [(c_wo, .int), (c_fg, .int)] t ∧ va_D (va_A [(o0, .inr (8, [.int x_th, .ref mwo, .ref mim, .ref mhi, .ref mlu, .ref mtp, .int x_td, .ref mfv, .int x_sz, .int x_at, .int x_fr, .int x_to, .int x_va, .int x_fk, .int x_fp, .ref mfr, .ref mwt, .int x_wt, .int x_op, .int x_jo, .ref mfg, .ref mpl, .long x_dr, .ref mtm, .ref mfa, .ref mqu, .ref mmo, .ref mwy, .ref mwn, .ref mma, .ref mwi, .ref mnu, .ref mmv])), (mwo, .inl (c_wo, 1875, .inl w_wo)), (mfg, .inl (c_fg, 12, .inl w_fg))] sz) [(o0, .inr (8, [.int x_th, .ref mwo, .ref mim, .ref mhi, .ref mlu, .ref mtp, .int x_td, .ref mfv, .int x_sz, .int x_at, .int x_fr, .int x_to, .int x_va, .int x_fk, .int x_fp, .ref mfr, .ref mwt, .int x_wt, .int x_op, .int x_jo, .ref mfg, .ref mpl, .long x_dr, .ref mtm, .ref mfa, .ref mqu, .ref mmo, .ref mwy, .ref mwn, .ref mma, .ref mwi, .ref mnu, .ref mmv])), (mwo, .inl (c_wo, 1875, .inl w_wo)), (mfg, .inl (c_fg, 12, .inl o0_))]) (va_A [(o0, .inr (8, [.int x_th, .ref mwo, .ref mim, .ref mhi, .ref mlu, .ref mtp, .int x_td, .ref mfv, .int x_sz, .int x_at, .int x_fr, .int x_to, .int x_va, .int x_fk, .int x_fp, .ref mfr, .ref mwt, .int x_wt, .int x_op, .int x_jo, .ref mfg, .ref mpl, .long x_dr, .ref mtm, .ref mfa, .ref mqu, .ref mmo, .ref mwy, .ref mwn, .ref mma, .ref mwi, .ref mnu, .ref mmv])), (mwo, .inl (c_wo, 1875, .inl w_wo)), (mfg, .inl (c_fg, 12, .inl w_fg))] sz)) 0 0 (va_A [(o0, .inr (8, [.int x_th, .ref mwo, .ref mim, .ref mhi, .ref mlu, .ref mtp, .int x_td, .ref mfv, .int x_sz, .int x_at, .int x_fr, .int x_to, .int x_va, .int x_fk, .int x_fp, .ref mfr, .ref mwt, .int x_wt, .int x_op, .int x_jo, .ref mfg, .ref mpl, .long x_dr, .ref mtm, .ref mfa, .ref mqu, .ref mmo, .ref mwy, .ref mwn, .ref mma, .ref mwi, .ref mnu, .ref mmv])), (mwo, .inl (c_wo, 1875, .inl w_wo)), (mfg, .inl (c_fg, 12, .inl w_fg))] sz) := by
  refine Met.ofW (cc := cX10_fillFigures) (maxL := 4) (ret := none) pn_X10 rfl ?_
  intro p e s m args below meth c s₁ B hml hv
  obtain ⟨rfl, hsz, hP, hK, hD0, hN⟩ := hv
  have hx := B.exec
  have hb := B.bytes
  have hr := B.returns
  have hts := atoms_spec (ws := uX10_fillFigures) B.pre
  have hown : s.vm.findClass RX10 = some m.cls := hown_of B.named rfl
  have hlocks := B.notSynchronized
  subst hsz
  have hD := hD0.self (sz := s.heap.size)
  generalize hAe : va_A [(o0, .inr (8, [.int x_th, .ref mwo, .ref mim, .ref mhi, .ref mlu, .ref mtp, .int x_td, .ref mfv, .int x_sz, .int x_at, .int x_fr, .int x_to, .int x_va, .int x_fk, .int x_fp, .ref mfr, .ref mwt, .int x_wt, .int x_op, .int x_jo, .ref mfg, .ref mpl, .long x_dr, .ref mtm, .ref mfa, .ref mqu, .ref mmo, .ref mwy, .ref mwn, .ref mma, .ref mwi, .ref mnu, .ref mmv])), (mwo, .inl (c_wo, 1875, .inl w_wo)), (mfg, .inl (c_fg, 12, .inl w_fg))] s.heap.size = A at hD ⊢
  have hA : ∀ q : Nat, s.heap.size ≤ q → A q := fun q h => by rw [← hAe]; exact Or.inr h
  have hS : va_S A s.heap s.heap [] := va_S.rf
  have hP : va_P (dC, dI) vwCl [(o0, .inr (8, [.int x_th, .ref mwo, .ref mim, .ref mhi, .ref mlu, .ref mtp, .int x_td, .ref mfv, .int x_sz, .int x_at, .int x_fr, .int x_to, .int x_va, .int x_fk, .int x_fp, .ref mfr, .ref mwt, .int x_wt, .int x_op, .int x_jo, .ref mfg, .ref mpl, .long x_dr, .ref mtm, .ref mfa, .ref mqu, .ref mmo, .ref mwy, .ref mwn, .ref mma, .ref mwi, .ref mnu, .ref mmv])), (mwo, .inl (c_wo, 1875, .inl w_wo)), (mfg, .inl (c_fg, 12, .inl w_fg))] s.heap := hP
  have hl := lv_entry ([.ref o0, .int a1]) (n := 4) (Nat.le_of_ble_eq_true rfl)
  rw [lg_entry_eq]
  generalize (lg_sl ([.ref o0, .int a1]) ++ List.replicate (4 - (lg_sl ([.ref o0, .int a1])).length) Slot.unset).toArray = ls at hl ⊢
  have hl : lv_has ls 4 [(0, .ref o0), (1, .int a1)] := hl
  refine lv_iload_n hx hb dX10_fillFigures_0 rfl (lv_at hl 1 rfl) ?_
  refine lv_istore_n (lv' := [(2, .int a1), (0, .ref o0), (1, .int a1)]) hx hb dX10_fillFigures_1 rfl hl (by decide) rfl (fun ls hl => ?_)
  refine lv_aload_n hx hb dX10_fillFigures_2 rfl (lv_at hl 1 rfl) ?_
  refine va_get (D := (dC, dI)) (ci := 8) (v := .ref mwo) (C := RX10) (T := TX10) (N := 33) hx hb hts iX10_fillFigures_X10 hown hK hP 0 rfl rfl 1 (by decide) (hts (.fieldLink RX10 9 "LuckyTicketModel" "world" "[I") (List.mem_of_getElem? (i := 1) rfl)) (fun _ h9 => h9) rfl dX10_fillFigures_3 ?_
  refine lv_iconst (v := 0) hx hb dX10_fillFigures_6 (by decide) ?_
  refine va_iald hx hb hK hP 1 0 rfl rfl (vp_in_b (by decide : (0 : Int) ≤ (0 : Int32).toInt ∧ (0 : Int32).toInt ≤ 0) (by decide) (by decide)) dX10_fillFigures_7 ?_
  refine lv_topi (fun z_30 e_z_30 => ?_)
  obtain rfl : ln = z_30 := (e_z_30.trans hw0).symm
  refine lv_iconst (v := 1) hx hb dX10_fillFigures_8 (by decide) ?_
  refine lv_isub hx hb dX10_fillFigures_9 ?_
  refine lv_topi (fun z_31 e_z_31 => ?_)
  obtain ⟨q_z_31, b_z_31⟩ := ti_sub (lo := -1) (hi := 11) e_z_31 rfl (by decide : (1 : Int32).toInt = 1) b_ln (by decide : (1 : Int) ≤ (1 : Int32).toInt ∧ (1 : Int32).toInt ≤ 1) (by decide)
  refine lv_istore_n (lv' := [(3, .int z_31), (2, .int a1), (0, .ref o0), (1, .int a1)]) hx hb dX10_fillFigures_10 rfl hl (by decide) rfl (fun ls hl => ?_)
  refine loopW (σ := Int32 × Int32 × (Nat → Int32)) (fun v => (v.1.toInt - (-1)).toNat) (fun v H locs ls => ((-1 : Int) ≤ v.1.toInt ∧ v.1.toInt ≤ 11) ∧ ((0 : Int) ≤ v.2.1.toInt ∧ v.2.1.toInt ≤ 19999) ∧ (rg v.2.2 12 0 15) ∧ (v.1.toInt < ln.toInt) ∧ va_P (dC, dI) vwCl [(o0, .inr (8, [.int x_th, .ref mwo, .ref mim, .ref mhi, .ref mlu, .ref mtp, .int x_td, .ref mfv, .int x_sz, .int x_at, .int x_fr, .int x_to, .int x_va, .int x_fk, .int x_fp, .ref mfr, .ref mwt, .int x_wt, .int x_op, .int x_jo, .ref mfg, .ref mpl, .long x_dr, .ref mtm, .ref mfa, .ref mqu, .ref mmo, .ref mwy, .ref mwn, .ref mma, .ref mwi, .ref mnu, .ref mmv])), (mwo, .inl (c_wo, 1875, .inl w_wo)), (mfg, .inl (c_fg, 12, .inl v.2.2))] H ∧ va_D A [(o0, .inr (8, [.int x_th, .ref mwo, .ref mim, .ref mhi, .ref mlu, .ref mtp, .int x_td, .ref mfv, .int x_sz, .int x_at, .int x_fr, .int x_to, .int x_va, .int x_fk, .int x_fp, .ref mfr, .ref mwt, .int x_wt, .int x_op, .int x_jo, .ref mfg, .ref mpl, .long x_dr, .ref mtm, .ref mfa, .ref mqu, .ref mmo, .ref mwy, .ref mwn, .ref mma, .ref mwi, .ref mnu, .ref mmv])), (mwo, .inl (c_wo, 1875, .inl w_wo)), (mfg, .inl (c_fg, 12, .inl v.2.2))] ∧ va_S A s.heap H locs ∧ lv_has ls 4 [(3, .int v.1), (2, .int v.2.1), (0, .ref o0), (1, .int a1)]) (fun v H locs ls hI ih_11_50 => ?_) (z_31, a1, w_fg) ⟨(show (-1 : Int) ≤ z_31.toInt ∧ z_31.toInt ≤ 11 from b_z_31), (show (0 : Int) ≤ a1.toInt ∧ a1.toInt ≤ 19999 from b_a1), (show rg w_fg 12 0 15 from ha_mfg), (show z_31.toInt < ln.toInt from (by omega)), hP, hD, hS, lv_sub hl [0, 1, 2, 3] rfl⟩
  obtain ⟨y_40, y_41, f_42⟩ := v
  obtain ⟨b_y_40, b_y_41, ha_f_42, hp, hP, hD, hS, hl⟩ := hI
  have b_y_40 : (-1 : Int) ≤ y_40.toInt ∧ y_40.toInt ≤ 11 := b_y_40
  have b_y_41 : (0 : Int) ≤ y_41.toInt ∧ y_41.toInt ≤ 19999 := b_y_41
  have ha_f_42 : rg f_42 12 0 15 := ha_f_42
  have hp : y_40.toInt < ln.toInt := hp
  have hP : va_P (dC, dI) vwCl [(o0, .inr (8, [.int x_th, .ref mwo, .ref mim, .ref mhi, .ref mlu, .ref mtp, .int x_td, .ref mfv, .int x_sz, .int x_at, .int x_fr, .int x_to, .int x_va, .int x_fk, .int x_fp, .ref mfr, .ref mwt, .int x_wt, .int x_op, .int x_jo, .ref mfg, .ref mpl, .long x_dr, .ref mtm, .ref mfa, .ref mqu, .ref mmo, .ref mwy, .ref mwn, .ref mma, .ref mwi, .ref mnu, .ref mmv])), (mwo, .inl (c_wo, 1875, .inl w_wo)), (mfg, .inl (c_fg, 12, .inl f_42))] H := hP
  have hD : va_D A [(o0, .inr (8, [.int x_th, .ref mwo, .ref mim, .ref mhi, .ref mlu, .ref mtp, .int x_td, .ref mfv, .int x_sz, .int x_at, .int x_fr, .int x_to, .int x_va, .int x_fk, .int x_fp, .ref mfr, .ref mwt, .int x_wt, .int x_op, .int x_jo, .ref mfg, .ref mpl, .long x_dr, .ref mtm, .ref mfa, .ref mqu, .ref mmo, .ref mwy, .ref mwn, .ref mma, .ref mwi, .ref mnu, .ref mmv])), (mwo, .inl (c_wo, 1875, .inl w_wo)), (mfg, .inl (c_fg, 12, .inl f_42))] := hD
  have hl : lv_has ls 4 [(3, .int y_40), (2, .int y_41), (0, .ref o0), (1, .int a1)] := hl
  refine lv_iload_n hx hb dX10_fillFigures_11 rfl (lv_at hl 0 rfl) ?_
  refine lv_if_lt (tgt := 44) hx hb dX10_fillFigures_12 (by decide) (fun c_51 => ?_) (fun c_51 => ?_)
  ·
    have n_c_51 : (y_40.toInt : Int) < 0 := c_lt rfl (by decide) c_51
    have b_y_40 : (-1 : Int) ≤ y_40.toInt ∧ y_40.toInt ≤ -1 := r_lt1 b_y_40 (by decide : (0 : Int) ≤ (0 : Int32).toInt ∧ (0 : Int32).toInt ≤ 0) n_c_51 (by decide)
    have hP9 := hP.sub (ws' := [(o0, .inr (8, [.int x_th, .ref mwo, .ref mim, .ref mhi, .ref mlu, .ref mtp, .int x_td, .ref mfv, .int x_sz, .int x_at, .int x_fr, .int x_to, .int x_va, .int x_fk, .int x_fp, .ref mfr, .ref mwt, .int x_wt, .int x_op, .int x_jo, .ref mfg, .ref mpl, .long x_dr, .ref mtm, .ref mfa, .ref mqu, .ref mmo, .ref mwy, .ref mwn, .ref mma, .ref mwi, .ref mnu, .ref mmv])), (mwo, .inl (c_wo, 1875, .inl w_wo)), (mfg, .inl (c_fg, 12, .inl f_42))]) [0, 1, 2] rfl
    have hD9 := hD.sub (ws' := [(o0, .inr (8, [.int x_th, .ref mwo, .ref mim, .ref mhi, .ref mlu, .ref mtp, .int x_td, .ref mfv, .int x_sz, .int x_at, .int x_fr, .int x_to, .int x_va, .int x_fk, .int x_fp, .ref mfr, .ref mwt, .int x_wt, .int x_op, .int x_jo, .ref mfg, .ref mpl, .long x_dr, .ref mtm, .ref mfa, .ref mqu, .ref mmo, .ref mwy, .ref mwn, .ref mma, .ref mwi, .ref mnu, .ref mmv])), (mwo, .inl (c_wo, 1875, .inl w_wo)), (mfg, .inl (c_fg, 12, .inl f_42))]) [0, 1, 2] (by decide) rfl
    have hK9 := hK.sub (tys' := [(c_wo, .int), (c_fg, .int)]) [0, 1] rfl
    exact W.vret hx hb hr (fun t ht hW => ⟨⟨(), rfl, trivial, f_42, ha_f_42, by rw [ht]; exact hP9, va_K.moved hW.alike hK9, hD9⟩, hS.F ht⟩) hS.2.2 dX10_fillFigures_44
  ·
    have n_c_51 : (0 : Int) ≤ y_40.toInt := c_nlt rfl (by decide) c_51
    have b_y_40 : (0 : Int) ≤ y_40.toInt ∧ y_40.toInt ≤ 11 := r_le2 (by decide : (0 : Int) ≤ (0 : Int32).toInt ∧ (0 : Int32).toInt ≤ 0) b_y_40 n_c_51 (by decide)
    refine lv_aload_n hx hb dX10_fillFigures_15 rfl (lv_at hl 2 rfl) ?_
    refine va_get (D := (dC, dI)) (ci := 8) (v := .ref mfg) (C := RX10) (T := TX10) (N := 33) hx hb hts iX10_fillFigures_X10 hown hK hP 0 rfl rfl 20 (by decide) (hts (.fieldLink RX10 40 "LuckyTicketModel" "figures" "[I") (List.mem_of_getElem? (i := 2) rfl)) (fun _ h9 => h9) rfl dX10_fillFigures_16 ?_
    refine lv_iload_n hx hb dX10_fillFigures_19 rfl (lv_at hl 0 rfl) ?_
    refine lv_iload_n hx hb dX10_fillFigures_20 rfl (lv_at hl 1 rfl) ?_
    refine lv_aload_n hx hb dX10_fillFigures_21 rfl (lv_at hl 2 rfl) ?_
    refine va_get (D := (dC, dI)) (ci := 8) (v := .ref mwo) (C := RX10) (T := TX10) (N := 33) hx hb hts iX10_fillFigures_X10 hown hK hP 0 rfl rfl 1 (by decide) (hts (.fieldLink RX10 9 "LuckyTicketModel" "world" "[I") (List.mem_of_getElem? (i := 1) rfl)) (fun _ h9 => h9) rfl dX10_fillFigures_22 ?_
    refine lv_iconst (v := 1) hx hb dX10_fillFigures_25 (by decide) ?_
    refine va_iald hx hb hK hP 1 0 rfl rfl (vp_in_b (by decide : (1 : Int) ≤ (1 : Int32).toInt ∧ (1 : Int32).toInt ≤ 1) (by decide) (by decide)) dX10_fillFigures_26 ?_
    refine lv_topi (fun z_52 e_z_52 => ?_)
    obtain rfl : bs = z_52 := (e_z_52.trans hw1).symm
    have b_bs : (1 : Int) ≤ bs.toInt ∧ bs.toInt ≤ 16 := ⟨by omega, (b_bs).2⟩
    refine lv_irem hx hb dX10_fillFigures_27 (ti_ne b_bs (by decide)) ?_
    refine lv_topi (fun z_53 e_z_53 => ?_)
    obtain ⟨q_z_53, b_z_53⟩ := ti_rem (hi := 15) e_z_53 rfl rfl b_y_41 b_bs (by decide)
    refine va_iast hx hb hK hP hD hS 2 1 rfl rfl (vp_in_b b_y_40 (by decide) (by decide)) dX10_fillFigures_28 (fun H locs hP hD hS => ?_)
    have hP : va_P (dC, dI) vwCl [(o0, .inr (8, [.int x_th, .ref mwo, .ref mim, .ref mhi, .ref mlu, .ref mtp, .int x_td, .ref mfv, .int x_sz, .int x_at, .int x_fr, .int x_to, .int x_va, .int x_fk, .int x_fp, .ref mfr, .ref mwt, .int x_wt, .int x_op, .int x_jo, .ref mfg, .ref mpl, .long x_dr, .ref mtm, .ref mfa, .ref mqu, .ref mmo, .ref mwy, .ref mwn, .ref mma, .ref mwi, .ref mnu, .ref mmv])), (mwo, .inl (c_wo, 1875, .inl w_wo)), (mfg, .inl (c_fg, 12, .inl (upd f_42 (y_40 : Int32).toNatClampNeg z_53)))] H := hP
    have hD : va_D A [(o0, .inr (8, [.int x_th, .ref mwo, .ref mim, .ref mhi, .ref mlu, .ref mtp, .int x_td, .ref mfv, .int x_sz, .int x_at, .int x_fr, .int x_to, .int x_va, .int x_fk, .int x_fp, .ref mfr, .ref mwt, .int x_wt, .int x_op, .int x_jo, .ref mfg, .ref mpl, .long x_dr, .ref mtm, .ref mfa, .ref mqu, .ref mmo, .ref mwy, .ref mwn, .ref mma, .ref mwi, .ref mnu, .ref mmv])), (mwo, .inl (c_wo, 1875, .inl w_wo)), (mfg, .inl (c_fg, 12, .inl (upd f_42 (y_40 : Int32).toNatClampNeg z_53)))] := hD
    have ha_55 : rg (upd f_42 (y_40 : Int32).toNatClampNeg z_53) 12 0 15 := rg_upd ha_f_42 b_z_53
    generalize (upd f_42 (y_40 : Int32).toNatClampNeg z_53) = f_54 at hP hD ha_55
    have hP : va_P (dC, dI) vwCl [(o0, .inr (8, [.int x_th, .ref mwo, .ref mim, .ref mhi, .ref mlu, .ref mtp, .int x_td, .ref mfv, .int x_sz, .int x_at, .int x_fr, .int x_to, .int x_va, .int x_fk, .int x_fp, .ref mfr, .ref mwt, .int x_wt, .int x_op, .int x_jo, .ref mfg, .ref mpl, .long x_dr, .ref mtm, .ref mfa, .ref mqu, .ref mmo, .ref mwy, .ref mwn, .ref mma, .ref mwi, .ref mnu, .ref mmv])), (mwo, .inl (c_wo, 1875, .inl w_wo)), (mfg, .inl (c_fg, 12, .inl f_54))] H := hP
    have hD : va_D A [(o0, .inr (8, [.int x_th, .ref mwo, .ref mim, .ref mhi, .ref mlu, .ref mtp, .int x_td, .ref mfv, .int x_sz, .int x_at, .int x_fr, .int x_to, .int x_va, .int x_fk, .int x_fp, .ref mfr, .ref mwt, .int x_wt, .int x_op, .int x_jo, .ref mfg, .ref mpl, .long x_dr, .ref mtm, .ref mfa, .ref mqu, .ref mmo, .ref mwy, .ref mwn, .ref mma, .ref mwi, .ref mnu, .ref mmv])), (mwo, .inl (c_wo, 1875, .inl w_wo)), (mfg, .inl (c_fg, 12, .inl f_54))] := hD
    refine lv_iload_n hx hb dX10_fillFigures_29 rfl (lv_at hl 1 rfl) ?_
    refine lv_aload_n hx hb dX10_fillFigures_30 rfl (lv_at hl 2 rfl) ?_
    refine va_get (D := (dC, dI)) (ci := 8) (v := .ref mwo) (C := RX10) (T := TX10) (N := 33) hx hb hts iX10_fillFigures_X10 hown hK hP 0 rfl rfl 1 (by decide) (hts (.fieldLink RX10 9 "LuckyTicketModel" "world" "[I") (List.mem_of_getElem? (i := 1) rfl)) (fun _ h9 => h9) rfl dX10_fillFigures_31 ?_
    refine lv_iconst (v := 1) hx hb dX10_fillFigures_34 (by decide) ?_
    refine va_iald hx hb hK hP 1 0 rfl rfl (vp_in_b (by decide : (1 : Int) ≤ (1 : Int32).toInt ∧ (1 : Int32).toInt ≤ 1) (by decide) (by decide)) dX10_fillFigures_35 ?_
    refine lv_topi (fun z_56 e_z_56 => ?_)
    obtain rfl : bs = z_56 := (e_z_56.trans hw1).symm
    refine lv_idiv hx hb dX10_fillFigures_36 (ti_ne b_bs (by decide)) ?_
    refine lv_topi (fun z_57 e_z_57 => ?_)
    obtain ⟨q_z_57, b_z_57⟩ := ti_div (hi := 19999) e_z_57 rfl rfl b_y_41 b_bs (by decide)
    refine lv_istore_n (lv' := [(2, .int z_57), (3, .int y_40), (0, .ref o0), (1, .int a1)]) hx hb dX10_fillFigures_37 rfl hl (by decide) rfl (fun ls hl => ?_)
    obtain ⟨z_58, e_z_58⟩ : ∃ y : Int32, y = y_40 + (-1) := ⟨_, rfl⟩
    refine lv_iinc (v := z_58) (lv' := [(3, .int z_58), (2, .int z_57), (0, .ref o0), (1, .int a1)]) hx hb dX10_fillFigures_38 hl (k := 1) rfl (by rw [e_z_58]; rfl) (by decide) rfl (fun ls hl => ?_)
    obtain ⟨q_z_58, b_z_58⟩ := ti_add (lo := -1) (hi := 10) e_z_58 rfl (by decide : ((-1) : Int32).toInt = -1) b_y_40 (by decide : (-1 : Int) ≤ ((-1) : Int32).toInt ∧ ((-1) : Int32).toInt ≤ -1) (by decide)
    refine lv_goto (tgt := 11) hx hb dX10_fillFigures_41 (by decide) ?_
    exact ih_11_50 (z_58, z_57, f_54) _ _ _ ⟨(show (-1 : Int) ≤ z_58.toInt ∧ z_58.toInt ≤ 11 from (rg_w b_z_58 (by decide) (by decide))), (show (0 : Int) ≤ z_57.toInt ∧ z_57.toInt ≤ 19999 from b_z_57), (show rg f_54 12 0 15 from ha_55), (show z_58.toInt < ln.toInt from (by omega)), hP, hD, hS, lv_sub hl [0, 1, 2, 3] rfl⟩ (show (z_58.toInt - (-1)).toNat < (y_40.toInt - (-1)).toNat by omega)
theorem dX10_sumOf_0 : decode cX10_sumOf 0 = .ok (.iconst 0, 1) := by decide +kernel
theorem dX10_sumOf_1 : decode cX10_sumOf 1 = .ok (.istore_n 2, 1) := by decide +kernel
theorem dX10_sumOf_2 : decode cX10_sumOf 2 = .ok (.iconst 0, 1) := by decide +kernel
theorem dX10_sumOf_3 : decode cX10_sumOf 3 = .ok (.istore_n 3, 1) := by decide +kernel
theorem dX10_sumOf_4 : decode cX10_sumOf 4 = .ok (.iload_n 3, 1) := by decide +kernel
theorem dX10_sumOf_5 : decode cX10_sumOf 5 = .ok (.aload_n 0, 1) := by decide +kernel
theorem dX10_sumOf_6 : decode cX10_sumOf 6 = .ok (.getfield 9, 3) := by decide +kernel
theorem dX10_sumOf_9 : decode cX10_sumOf 9 = .ok (.iconst 0, 1) := by decide +kernel
theorem dX10_sumOf_10 : decode cX10_sumOf 10 = .ok (.iaload, 1) := by decide +kernel
theorem dX10_sumOf_11 : decode cX10_sumOf 11 = .ok (.if_icmp .ge 31, 3) := by decide +kernel
theorem dX10_sumOf_14 : decode cX10_sumOf 14 = .ok (.iload_n 2, 1) := by decide +kernel
theorem dX10_sumOf_15 : decode cX10_sumOf 15 = .ok (.iload_n 1, 1) := by decide +kernel
theorem dX10_sumOf_16 : decode cX10_sumOf 16 = .ok (.iload_n 3, 1) := by decide +kernel
theorem dX10_sumOf_17 : decode cX10_sumOf 17 = .ok (.ishr, 1) := by decide +kernel
theorem dX10_sumOf_18 : decode cX10_sumOf 18 = .ok (.iconst 1, 1) := by decide +kernel
theorem dX10_sumOf_19 : decode cX10_sumOf 19 = .ok (.iand, 1) := by decide +kernel
theorem dX10_sumOf_20 : decode cX10_sumOf 20 = .ok (.iconst 1, 1) := by decide +kernel
theorem dX10_sumOf_21 : decode cX10_sumOf 21 = .ok (.if_icmp .ne 12, 3) := by decide +kernel
theorem dX10_sumOf_24 : decode cX10_sumOf 24 = .ok (.aload_n 0, 1) := by decide +kernel
theorem dX10_sumOf_25 : decode cX10_sumOf 25 = .ok (.getfield 40, 3) := by decide +kernel
theorem dX10_sumOf_28 : decode cX10_sumOf 28 = .ok (.iload_n 3, 1) := by decide +kernel
theorem dX10_sumOf_29 : decode cX10_sumOf 29 = .ok (.iaload, 1) := by decide +kernel
theorem dX10_sumOf_30 : decode cX10_sumOf 30 = .ok (.goto 4, 3) := by decide +kernel
theorem dX10_sumOf_33 : decode cX10_sumOf 33 = .ok (.iconst 0, 1) := by decide +kernel
theorem dX10_sumOf_34 : decode cX10_sumOf 34 = .ok (.iadd, 1) := by decide +kernel
theorem dX10_sumOf_35 : decode cX10_sumOf 35 = .ok (.istore_n 2, 1) := by decide +kernel
theorem dX10_sumOf_36 : decode cX10_sumOf 36 = .ok (.iinc 3 1, 3) := by decide +kernel
theorem dX10_sumOf_39 : decode cX10_sumOf 39 = .ok (.goto (-35), 3) := by decide +kernel
theorem dX10_sumOf_42 : decode cX10_sumOf 42 = .ok (.iload_n 2, 1) := by decide +kernel
theorem dX10_sumOf_43 : decode cX10_sumOf 43 = .ok (.ireturn, 1) := by decide +kernel
theorem hd_yX10_sumOf : yX10_sumOf.cls = RX10 ∧ yX10_sumOf.cls ≠ "java/lang/invoke/MethodHandle" ∧ yX10_sumOf.cls ≠ "java/lang/invoke/VarHandle" ∧ (parseMethodDescriptor yX10_sumOf.desc).map (fun d => d.parameters.length) = some 1 := by decide +kernel
def uX10_sumOf : List Cond := List.cons (.code yX10_sumOf cX10_sumOf 4 (some .int)) (HAppend.hAppend ([.fieldLink RX10 9 "LuckyTicketModel" "world" "[I", .fieldLink RX10 40 "LuckyTicketModel" "figures" "[I"] : List Cond) wsX100)
theorem iX10_sumOf_X10 : ∀ w ∈ wsX100, w ∈ uX10_sumOf := fun _ h => (List.mem_cons_of_mem _ (List.mem_append_right _ h))
theorem guX10_sumOf : GU uX10_sumOf := gu_cons (gu_app (by decide +kernel) gws_X10)
set_option maxHeartbeats 4000000 in
set_option maxRecDepth 100000 in
theorem kX10_sumOf (l : Launch) (dC : Nat → ClassId) (dI : Nat → Nat → Nat) (o0 : Nat) (x_th : Int32) (mwo : Nat) (mim : Nat) (mhi : Nat) (mlu : Nat) (mtp : Nat) (x_td : Int32) (mfv : Nat) (x_sz : Int32) (x_at : Int32) (x_fr : Int32) (x_to : Int32) (x_va : Int32) (x_fk : Int32) (x_fp : Int32) (mfr : Nat) (mwt : Nat) (x_wt : Int32) (x_op : Int32) (x_jo : Int32) (mfg : Nat) (mpl : Nat) (x_dr : Int64) (mtm : Nat) (mfa : Nat) (mqu : Nat) (mmo : Nat) (mwy : Nat) (mwn : Nat) (mma : Nat) (mwi : Nat) (mnu : Nat) (mmv : Nat) (c_wo : ClassId) (c_fg : ClassId) (w_wo : Nat → Int32) (w_fg : Nat → Int32) (ln : Int32) (bs : Int32) (tk : Int32) (lw : Int32) (li : Int32) (a1 : Int32) (b_ln : (0 : Int) ≤ ln.toInt ∧ ln.toInt ≤ 12) (b_bs : (0 : Int) ≤ bs.toInt ∧ bs.toInt ≤ 16) (b_tk : (0 : Int) ≤ tk.toInt ∧ tk.toInt ≤ 20000) (b_lw : (0 : Int) ≤ lw.toInt ∧ lw.toInt ≤ 9) (ha_mfg : rg w_fg 12 0 15) (hw0 : w_wo 0 = ln) (hw1 : w_wo 1 = bs) (hw2 : w_wo 2 = tk) (hw3 : w_wo 3 = lw) (hw4 : w_wo 4 = li) (hwz : (ln.toInt = 0 ∧ bs.toInt = 0 ∧ tk.toInt = 0 ∧ lw.toInt = 0) ∨ (1 ≤ ln.toInt ∧ 2 ≤ bs.toInt ∧ 1 ≤ tk.toInt)) : Met l yX10_sumOf uX10_sumOf ({ frames := 0, cells := 0, slots := 0, locals := 0 }) (va_Pc [.ref o0, .int a1] (pw (dC, dI) vwCl [(o0, .inr (8, [.int x_th, .ref mwo, .ref mim, .ref mhi, .ref mlu, .ref mtp, .int x_td, .ref mfv, .int x_sz, .int x_at, .int x_fr, .int x_to, .int x_va, .int x_fk, .int x_fp, .ref mfr, .ref mwt, .int x_wt, .int x_op, .int x_jo, .ref mfg, .ref mpl, .long x_dr, .ref mtm, .ref mfa, .ref mqu, .ref mmo, .ref mwy, .ref mwn, .ref mma, .ref mwi, .ref mnu, .ref mmv])), (mwo, .inl (c_wo, 1875, .inl w_wo)), (mfg, .inl (c_fg, 12, .inl w_fg))] [(c_wo, .int), (c_fg, .int)])) (vp_Si (fun r => ((0 : Int) ≤ r.toInt ∧ r.toInt ≤ 180))) 0 0 (fun _ => False) := by
  refine Met.ofW (cc := cX10_sumOf) (maxL := 4) (ret := (some .int)) pn_X10 rfl ?_
  intro p e s m args below meth c s₁ B hml hv
  obtain ⟨rfl, hP, hK, hN⟩ := hv
  have hx := B.exec
  have hb := B.bytes
  have hr := B.returns
  have hts := atoms_spec (ws := uX10_sumOf) B.pre
  have hown : s.vm.findClass RX10 = some m.cls := hown_of B.named rfl
  have hlocks := B.notSynchronized
  have hl := lv_entry ([.ref o0, .int a1]) (n := 4) (Nat.le_of_ble_eq_true rfl)
  rw [lg_entry_eq]
  generalize (lg_sl ([.ref o0, .int a1]) ++ List.replicate (4 - (lg_sl ([.ref o0, .int a1])).length) Slot.unset).toArray = ls at hl ⊢
  have hl : lv_has ls 4 [(0, .ref o0), (1, .int a1)] := hl
  refine lv_iconst (v := 0) hx hb dX10_sumOf_0 (by decide) ?_
  refine lv_istore_n (lv' := [(2, .int 0), (0, .ref o0), (1, .int a1)]) hx hb dX10_sumOf_1 rfl hl (by decide) rfl (fun ls hl => ?_)
  refine lv_iconst (v := 0) hx hb dX10_sumOf_2 (by decide) ?_
  refine lv_istore_n (lv' := [(3, .int 0), (2, .int 0), (0, .ref o0), (1, .int a1)]) hx hb dX10_sumOf_3 rfl hl (by decide) rfl (fun ls hl => ?_)
  refine loopP (σ := Int32 × Int32) (fun v => (12 - v.1.toInt).toNat) (fun v ls => ((0 : Int) ≤ v.1.toInt ∧ v.1.toInt ≤ 12) ∧ ((0 : Int) ≤ v.2.toInt ∧ v.2.toInt ≤ 180) ∧ (0 ≤ v.2.toInt ∧ v.2.toInt ≤ 15 * v.1.toInt) ∧ lv_has ls 4 [(3, .int v.1), (2, .int v.2), (0, .ref o0), (1, .int a1)]) (fun v ls hI ih_4_94 => ?_) ((0 : Int32), (0 : Int32)) ⟨(show (0 : Int) ≤ (0 : Int32).toInt ∧ (0 : Int32).toInt ≤ 12 from (rg_w (by decide : (0 : Int) ≤ (0 : Int32).toInt ∧ (0 : Int32).toInt ≤ 0) (by decide) (by decide))), (show (0 : Int) ≤ (0 : Int32).toInt ∧ (0 : Int32).toInt ≤ 180 from (rg_w (by decide : (0 : Int) ≤ (0 : Int32).toInt ∧ (0 : Int32).toInt ≤ 0) (by decide) (by decide))), (show 0 ≤ (0 : Int32).toInt ∧ (0 : Int32).toInt ≤ 15 * (0 : Int32).toInt from (by have zl : (0 : Int32).toInt = 0 := (by decide); omega)), lv_sub hl [0, 1, 2, 3] rfl⟩
  obtain ⟨y_63, y_64⟩ := v
  obtain ⟨b_y_63, b_y_64, hn, hl⟩ := hI
  have b_y_63 : (0 : Int) ≤ y_63.toInt ∧ y_63.toInt ≤ 12 := b_y_63
  have b_y_64 : (0 : Int) ≤ y_64.toInt ∧ y_64.toInt ≤ 180 := b_y_64
  have hn : 0 ≤ y_64.toInt ∧ y_64.toInt ≤ 15 * y_63.toInt := hn
  have hl : lv_has ls 4 [(3, .int y_63), (2, .int y_64), (0, .ref o0), (1, .int a1)] := hl
  refine lv_iload_n hx hb dX10_sumOf_4 rfl (lv_at hl 0 rfl) ?_
  refine lv_aload_n hx hb dX10_sumOf_5 rfl (lv_at hl 2 rfl) ?_
  refine va_get (D := (dC, dI)) (ci := 8) (v := .ref mwo) (C := RX10) (T := TX10) (N := 33) hx hb hts iX10_sumOf_X10 hown hK hP 0 rfl rfl 1 (by decide) (hts (.fieldLink RX10 9 "LuckyTicketModel" "world" "[I") (List.mem_of_getElem? (i := 1) rfl)) (fun _ h9 => h9) rfl dX10_sumOf_6 ?_
  refine lv_iconst (v := 0) hx hb dX10_sumOf_9 (by decide) ?_
  refine va_iald hx hb hK hP 1 0 rfl rfl (vp_in_b (by decide : (0 : Int) ≤ (0 : Int32).toInt ∧ (0 : Int32).toInt ≤ 0) (by decide) (by decide)) dX10_sumOf_10 ?_
  refine lv_topi (fun z_95 e_z_95 => ?_)
  obtain rfl : ln = z_95 := (e_z_95.trans hw0).symm
  refine lv_icmp_ge (tgt := 42) hx hb dX10_sumOf_11 (by decide) (fun c_96 => ?_) (fun c_96 => ?_)
  ·
    have n_c_96 : (ln.toInt : Int) ≤ y_63.toInt := c_ge rfl rfl c_96
    refine lv_iload_n hx hb dX10_sumOf_42 rfl (lv_at hl 1 rfl) ?_
    exact W.iret (v := y_64) hx hb hr (fun t ht hW => ⟨y_64, rfl, b_y_64, ht⟩) t_nil dX10_sumOf_43
  ·
    have n_c_96 : (y_63.toInt : Int) < ln.toInt := c_nge rfl rfl c_96
    have b_y_63 : (0 : Int) ≤ y_63.toInt ∧ y_63.toInt ≤ 11 := r_lt1 b_y_63 b_ln n_c_96 (by decide)
    have b_ln : (1 : Int) ≤ ln.toInt ∧ ln.toInt ≤ 12 := r_lt2 b_y_63 b_ln n_c_96 (by decide)
    refine lv_iload_n hx hb dX10_sumOf_14 rfl (lv_at hl 1 rfl) ?_
    refine lv_iload_n hx hb dX10_sumOf_15 rfl (lv_at hl 3 rfl) ?_
    refine lv_iload_n hx hb dX10_sumOf_16 rfl (lv_at hl 0 rfl) ?_
    refine lv_ishr hx hb dX10_sumOf_17 ?_
    refine lv_topi (fun z_97 e_z_97 => ?_)
    refine lv_iconst (v := 1) hx hb dX10_sumOf_18 (by decide) ?_
    refine lv_iand hx hb dX10_sumOf_19 ?_
    refine lv_topi (fun z_98 e_z_98 => ?_)
    have b_z_98 : (0 : Int) ≤ z_98.toInt ∧ z_98.toInt ≤ 1 := ti_and (k := 1) e_z_98 (by decide) (by decide) (by decide)
    refine lv_iconst (v := 1) hx hb dX10_sumOf_20 (by decide) ?_
    refine cutP (σ := Int32) (pc2 := 34) (st2 := fun v => [.int v, .int y_64]) (cells2 := 0) (slots2 := 0) (fun v ls => ((0 : Int) ≤ v.toInt ∧ v.toInt ≤ 15) ∧ lv_has ls 4 [(3, .int y_63), (2, .int y_64), (0, .ref o0), (1, .int a1)]) (fun v ls hI => ?_) (fun hj_34_101 => ?_)
    ·
      obtain ⟨y_101, rfl⟩ : ∃ z, z = v := ⟨_, rfl⟩
      obtain ⟨b_y_101, hl⟩ := hI
      have b_y_101 : (0 : Int) ≤ y_101.toInt ∧ y_101.toInt ≤ 15 := b_y_101
      have hl : lv_has ls 4 [(3, .int y_63), (2, .int y_64), (0, .ref o0), (1, .int a1)] := hl
      refine lv_iadd hx hb dX10_sumOf_34 ?_
      refine lv_topi (fun z_102 e_z_102 => ?_)
      obtain ⟨q_z_102, b_z_102⟩ := ti_add (lo := 0) (hi := 195) e_z_102 rfl rfl b_y_64 b_y_101 (by decide)
      refine lv_istore_n (lv' := [(2, .int z_102), (3, .int y_63), (0, .ref o0), (1, .int a1)]) hx hb dX10_sumOf_35 rfl hl (by decide) rfl (fun ls hl => ?_)
      obtain ⟨z_103, e_z_103⟩ : ∃ y : Int32, y = y_63 + 1 := ⟨_, rfl⟩
      refine lv_iinc (v := z_103) (lv' := [(3, .int z_103), (2, .int z_102), (0, .ref o0), (1, .int a1)]) hx hb dX10_sumOf_36 hl (k := 1) rfl (by rw [e_z_103]; rfl) (by decide) rfl (fun ls hl => ?_)
      obtain ⟨q_z_103, b_z_103⟩ := ti_add (lo := 1) (hi := 12) e_z_103 rfl (by decide : (1 : Int32).toInt = 1) b_y_63 (by decide : (1 : Int) ≤ (1 : Int32).toInt ∧ (1 : Int32).toInt ≤ 1) (by decide)
      refine lv_goto (tgt := 4) hx hb dX10_sumOf_39 (by decide) ?_
      exact ih_4_94 (z_103, z_102) _ ⟨(show (0 : Int) ≤ z_103.toInt ∧ z_103.toInt ≤ 12 from (rg_w b_z_103 (by decide) (by decide))), (show (0 : Int) ≤ z_102.toInt ∧ z_102.toInt ≤ 180 from ⟨by omega, by omega⟩), (show 0 ≤ z_102.toInt ∧ z_102.toInt ≤ 15 * z_103.toInt from (by omega)), lv_sub hl [0, 1, 2, 3] rfl⟩ (show (12 - z_103.toInt).toNat < (12 - y_63.toInt).toNat by omega)
    ·
      refine lv_icmp_ne (tgt := 33) hx hb dX10_sumOf_21 (by decide) (fun c_99 => ?_) (fun c_99 => ?_)
      ·
        have n_c_99 : (z_98.toInt : Int) ≠ 1 := c_ne rfl (by decide) c_99
        have b_z_98 : (0 : Int) ≤ z_98.toInt ∧ z_98.toInt ≤ 0 := r_ne2 b_z_98 (by decide : (1 : Int) ≤ (1 : Int32).toInt ∧ (1 : Int32).toInt ≤ 1) n_c_99 (by decide)
        refine lv_iconst (v := 0) hx hb dX10_sumOf_33 (by decide) ?_
        exact hj_34_101 (0 : Int32) _ ⟨(show (0 : Int) ≤ (0 : Int32).toInt ∧ (0 : Int32).toInt ≤ 15 from (rg_w (by decide : (0 : Int) ≤ (0 : Int32).toInt ∧ (0 : Int32).toInt ≤ 0) (by decide) (by decide))), lv_sub hl [0, 1, 2, 3] rfl⟩
      ·
        have n_c_99 : (z_98.toInt : Int) = 1 := c_eq rfl (by decide) c_99
        have b_z_98 : (1 : Int) ≤ z_98.toInt ∧ z_98.toInt ≤ 1 := r_eq1 b_z_98 (by decide : (1 : Int) ≤ (1 : Int32).toInt ∧ (1 : Int32).toInt ≤ 1) n_c_99 (by decide)
        refine lv_aload_n hx hb dX10_sumOf_24 rfl (lv_at hl 2 rfl) ?_
        refine va_get (D := (dC, dI)) (ci := 8) (v := .ref mfg) (C := RX10) (T := TX10) (N := 33) hx hb hts iX10_sumOf_X10 hown hK hP 0 rfl rfl 20 (by decide) (hts (.fieldLink RX10 40 "LuckyTicketModel" "figures" "[I") (List.mem_of_getElem? (i := 2) rfl)) (fun _ h9 => h9) rfl dX10_sumOf_25 ?_
        refine lv_iload_n hx hb dX10_sumOf_28 rfl (lv_at hl 0 rfl) ?_
        refine va_iald hx hb hK hP 2 1 rfl rfl (vp_in_b b_y_63 (by decide) (by decide)) dX10_sumOf_29 ?_
        refine lv_topi (fun z_104 e_z_104 => ?_)
        have b_z_104 : (0 : Int) ≤ z_104.toInt ∧ z_104.toInt ≤ 15 := rg_at ha_mfg (vp_in_b b_y_63 (by decide) (by decide)) e_z_104
        refine lv_goto (tgt := 34) hx hb dX10_sumOf_30 (by decide) ?_
        exact hj_34_101 z_104 _ ⟨(show (0 : Int) ≤ z_104.toInt ∧ z_104.toInt ≤ 15 from b_z_104), lv_sub hl [0, 1, 2, 3] rfl⟩
theorem dX10_all_0 : decode cX10_all 0 = .ok (.iconst 1, 1) := by decide +kernel
theorem dX10_all_1 : decode cX10_all 1 = .ok (.aload_n 0, 1) := by decide +kernel
theorem dX10_all_2 : decode cX10_all 2 = .ok (.getfield 9, 3) := by decide +kernel
theorem dX10_all_5 : decode cX10_all 5 = .ok (.iconst 0, 1) := by decide +kernel
theorem dX10_all_6 : decode cX10_all 6 = .ok (.iaload, 1) := by decide +kernel
theorem dX10_all_7 : decode cX10_all 7 = .ok (.ishl, 1) := by decide +kernel
theorem dX10_all_8 : decode cX10_all 8 = .ok (.iconst 1, 1) := by decide +kernel
theorem dX10_all_9 : decode cX10_all 9 = .ok (.isub, 1) := by decide +kernel
theorem dX10_all_10 : decode cX10_all 10 = .ok (.ireturn, 1) := by decide +kernel
theorem hd_yX10_all : yX10_all.cls = RX10 ∧ yX10_all.cls ≠ "java/lang/invoke/MethodHandle" ∧ yX10_all.cls ≠ "java/lang/invoke/VarHandle" ∧ (parseMethodDescriptor yX10_all.desc).map (fun d => d.parameters.length) = some 0 := by decide +kernel
def uX10_all : List Cond := List.cons (.code yX10_all cX10_all 1 (some .int)) (HAppend.hAppend ([.fieldLink RX10 9 "LuckyTicketModel" "world" "[I"] : List Cond) wsX100)
theorem iX10_all_X10 : ∀ w ∈ wsX100, w ∈ uX10_all := fun _ h => (List.mem_cons_of_mem _ (List.mem_append_right _ h))
theorem guX10_all : GU uX10_all := gu_cons (gu_app (by decide +kernel) gws_X10)
set_option maxHeartbeats 4000000 in
set_option maxRecDepth 100000 in
theorem kX10_all (l : Launch) (dC : Nat → ClassId) (dI : Nat → Nat → Nat) (o0 : Nat) (x_th : Int32) (mwo : Nat) (mim : Nat) (mhi : Nat) (mlu : Nat) (mtp : Nat) (x_td : Int32) (mfv : Nat) (x_sz : Int32) (x_at : Int32) (x_fr : Int32) (x_to : Int32) (x_va : Int32) (x_fk : Int32) (x_fp : Int32) (mfr : Nat) (mwt : Nat) (x_wt : Int32) (x_op : Int32) (x_jo : Int32) (mfg : Nat) (mpl : Nat) (x_dr : Int64) (mtm : Nat) (mfa : Nat) (mqu : Nat) (mmo : Nat) (mwy : Nat) (mwn : Nat) (mma : Nat) (mwi : Nat) (mnu : Nat) (mmv : Nat) (c_wo : ClassId) (w_wo : Nat → Int32) (ln : Int32) (bs : Int32) (tk : Int32) (lw : Int32) (li : Int32) (b_ln : (0 : Int) ≤ ln.toInt ∧ ln.toInt ≤ 12) (b_bs : (0 : Int) ≤ bs.toInt ∧ bs.toInt ≤ 16) (b_tk : (0 : Int) ≤ tk.toInt ∧ tk.toInt ≤ 20000) (b_lw : (0 : Int) ≤ lw.toInt ∧ lw.toInt ≤ 9) (hw0 : w_wo 0 = ln) (hw1 : w_wo 1 = bs) (hw2 : w_wo 2 = tk) (hw3 : w_wo 3 = lw) (hw4 : w_wo 4 = li) (hwz : (ln.toInt = 0 ∧ bs.toInt = 0 ∧ tk.toInt = 0 ∧ lw.toInt = 0) ∨ (1 ≤ ln.toInt ∧ 2 ≤ bs.toInt ∧ 1 ≤ tk.toInt)) : Met l yX10_all uX10_all ({ frames := 0, cells := 0, slots := 0, locals := 0 }) (va_Pc [.ref o0] (pw (dC, dI) vwCl [(o0, .inr (8, [.int x_th, .ref mwo, .ref mim, .ref mhi, .ref mlu, .ref mtp, .int x_td, .ref mfv, .int x_sz, .int x_at, .int x_fr, .int x_to, .int x_va, .int x_fk, .int x_fp, .ref mfr, .ref mwt, .int x_wt, .int x_op, .int x_jo, .ref mfg, .ref mpl, .long x_dr, .ref mtm, .ref mfa, .ref mqu, .ref mmo, .ref mwy, .ref mwn, .ref mma, .ref mwi, .ref mnu, .ref mmv])), (mwo, .inl (c_wo, 1875, .inl w_wo))] [(c_wo, .int)])) (vp_Si (fun r => True)) 0 0 (fun _ => False) := by
  refine Met.ofW (cc := cX10_all) (maxL := 1) (ret := (some .int)) pn_X10 rfl ?_
  intro p e s m args below meth c s₁ B hml hv
  obtain ⟨rfl, hP, hK, hN⟩ := hv
  have hx := B.exec
  have hb := B.bytes
  have hr := B.returns
  have hts := atoms_spec (ws := uX10_all) B.pre
  have hown : s.vm.findClass RX10 = some m.cls := hown_of B.named rfl
  have hlocks := B.notSynchronized
  have hl := lv_entry ([.ref o0]) (n := 1) (Nat.le_of_ble_eq_true rfl)
  rw [lg_entry_eq]
  generalize (lg_sl ([.ref o0]) ++ List.replicate (1 - (lg_sl ([.ref o0])).length) Slot.unset).toArray = ls at hl ⊢
  have hl : lv_has ls 1 [(0, .ref o0)] := hl
  refine lv_iconst (v := 1) hx hb dX10_all_0 (by decide) ?_
  refine lv_aload_n hx hb dX10_all_1 rfl (lv_at hl 0 rfl) ?_
  refine va_get (D := (dC, dI)) (ci := 8) (v := .ref mwo) (C := RX10) (T := TX10) (N := 33) hx hb hts iX10_all_X10 hown hK hP 0 rfl rfl 1 (by decide) (hts (.fieldLink RX10 9 "LuckyTicketModel" "world" "[I") (List.mem_of_getElem? (i := 1) rfl)) (fun _ h9 => h9) rfl dX10_all_2 ?_
  refine lv_iconst (v := 0) hx hb dX10_all_5 (by decide) ?_
  refine va_iald hx hb hK hP 1 0 rfl rfl (vp_in_b (by decide : (0 : Int) ≤ (0 : Int32).toInt ∧ (0 : Int32).toInt ≤ 0) (by decide) (by decide)) dX10_all_6 ?_
  refine lv_topi (fun z_4 e_z_4 => ?_)
  obtain rfl : ln = z_4 := (e_z_4.trans hw0).symm
  refine lv_ishl hx hb dX10_all_7 ?_
  refine lv_topi (fun z_5 e_z_5 => ?_)
  refine lv_iconst (v := 1) hx hb dX10_all_8 (by decide) ?_
  refine lv_isub hx hb dX10_all_9 ?_
  refine lv_topi (fun z_6 e_z_6 => ?_)
  exact W.iret (v := z_6) hx hb hr (fun t ht hW => ⟨z_6, rfl, trivial, ht⟩) t_nil dX10_all_10
theorem dX10_firstHalf_0 : decode cX10_firstHalf 0 = .ok (.iconst 1, 1) := by decide +kernel
theorem dX10_firstHalf_1 : decode cX10_firstHalf 1 = .ok (.aload_n 0, 1) := by decide +kernel
theorem dX10_firstHalf_2 : decode cX10_firstHalf 2 = .ok (.getfield 9, 3) := by decide +kernel
theorem dX10_firstHalf_5 : decode cX10_firstHalf 5 = .ok (.iconst 0, 1) := by decide +kernel
theorem dX10_firstHalf_6 : decode cX10_firstHalf 6 = .ok (.iaload, 1) := by decide +kernel
theorem dX10_firstHalf_7 : decode cX10_firstHalf 7 = .ok (.iconst 2, 1) := by decide +kernel
theorem dX10_firstHalf_8 : decode cX10_firstHalf 8 = .ok (.idiv, 1) := by decide +kernel
theorem dX10_firstHalf_9 : decode cX10_firstHalf 9 = .ok (.ishl, 1) := by decide +kernel
theorem dX10_firstHalf_10 : decode cX10_firstHalf 10 = .ok (.iconst 1, 1) := by decide +kernel
theorem dX10_firstHalf_11 : decode cX10_firstHalf 11 = .ok (.isub, 1) := by decide +kernel
theorem dX10_firstHalf_12 : decode cX10_firstHalf 12 = .ok (.ireturn, 1) := by decide +kernel
theorem hd_yX10_firstHalf : yX10_firstHalf.cls = RX10 ∧ yX10_firstHalf.cls ≠ "java/lang/invoke/MethodHandle" ∧ yX10_firstHalf.cls ≠ "java/lang/invoke/VarHandle" ∧ (parseMethodDescriptor yX10_firstHalf.desc).map (fun d => d.parameters.length) = some 0 := by decide +kernel
def uX10_firstHalf : List Cond := List.cons (.code yX10_firstHalf cX10_firstHalf 1 (some .int)) (HAppend.hAppend ([.fieldLink RX10 9 "LuckyTicketModel" "world" "[I"] : List Cond) wsX100)
theorem iX10_firstHalf_X10 : ∀ w ∈ wsX100, w ∈ uX10_firstHalf := fun _ h => (List.mem_cons_of_mem _ (List.mem_append_right _ h))
theorem guX10_firstHalf : GU uX10_firstHalf := gu_cons (gu_app (by decide +kernel) gws_X10)
set_option maxHeartbeats 4000000 in
set_option maxRecDepth 100000 in
theorem kX10_firstHalf (l : Launch) (dC : Nat → ClassId) (dI : Nat → Nat → Nat) (o0 : Nat) (x_th : Int32) (mwo : Nat) (mim : Nat) (mhi : Nat) (mlu : Nat) (mtp : Nat) (x_td : Int32) (mfv : Nat) (x_sz : Int32) (x_at : Int32) (x_fr : Int32) (x_to : Int32) (x_va : Int32) (x_fk : Int32) (x_fp : Int32) (mfr : Nat) (mwt : Nat) (x_wt : Int32) (x_op : Int32) (x_jo : Int32) (mfg : Nat) (mpl : Nat) (x_dr : Int64) (mtm : Nat) (mfa : Nat) (mqu : Nat) (mmo : Nat) (mwy : Nat) (mwn : Nat) (mma : Nat) (mwi : Nat) (mnu : Nat) (mmv : Nat) (c_wo : ClassId) (w_wo : Nat → Int32) (ln : Int32) (bs : Int32) (tk : Int32) (lw : Int32) (li : Int32) (b_ln : (0 : Int) ≤ ln.toInt ∧ ln.toInt ≤ 12) (b_bs : (0 : Int) ≤ bs.toInt ∧ bs.toInt ≤ 16) (b_tk : (0 : Int) ≤ tk.toInt ∧ tk.toInt ≤ 20000) (b_lw : (0 : Int) ≤ lw.toInt ∧ lw.toInt ≤ 9) (hw0 : w_wo 0 = ln) (hw1 : w_wo 1 = bs) (hw2 : w_wo 2 = tk) (hw3 : w_wo 3 = lw) (hw4 : w_wo 4 = li) (hwz : (ln.toInt = 0 ∧ bs.toInt = 0 ∧ tk.toInt = 0 ∧ lw.toInt = 0) ∨ (1 ≤ ln.toInt ∧ 2 ≤ bs.toInt ∧ 1 ≤ tk.toInt)) : Met l yX10_firstHalf uX10_firstHalf ({ frames := 0, cells := 0, slots := 0, locals := 0 }) (va_Pc [.ref o0] (pw (dC, dI) vwCl [(o0, .inr (8, [.int x_th, .ref mwo, .ref mim, .ref mhi, .ref mlu, .ref mtp, .int x_td, .ref mfv, .int x_sz, .int x_at, .int x_fr, .int x_to, .int x_va, .int x_fk, .int x_fp, .ref mfr, .ref mwt, .int x_wt, .int x_op, .int x_jo, .ref mfg, .ref mpl, .long x_dr, .ref mtm, .ref mfa, .ref mqu, .ref mmo, .ref mwy, .ref mwn, .ref mma, .ref mwi, .ref mnu, .ref mmv])), (mwo, .inl (c_wo, 1875, .inl w_wo))] [(c_wo, .int)])) (vp_Si (fun r => True)) 0 0 (fun _ => False) := by
  refine Met.ofW (cc := cX10_firstHalf) (maxL := 1) (ret := (some .int)) pn_X10 rfl ?_
  intro p e s m args below meth c s₁ B hml hv
  obtain ⟨rfl, hP, hK, hN⟩ := hv
  have hx := B.exec
  have hb := B.bytes
  have hr := B.returns
  have hts := atoms_spec (ws := uX10_firstHalf) B.pre
  have hown : s.vm.findClass RX10 = some m.cls := hown_of B.named rfl
  have hlocks := B.notSynchronized
  have hl := lv_entry ([.ref o0]) (n := 1) (Nat.le_of_ble_eq_true rfl)
  rw [lg_entry_eq]
  generalize (lg_sl ([.ref o0]) ++ List.replicate (1 - (lg_sl ([.ref o0])).length) Slot.unset).toArray = ls at hl ⊢
  have hl : lv_has ls 1 [(0, .ref o0)] := hl
  refine lv_iconst (v := 1) hx hb dX10_firstHalf_0 (by decide) ?_
  refine lv_aload_n hx hb dX10_firstHalf_1 rfl (lv_at hl 0 rfl) ?_
  refine va_get (D := (dC, dI)) (ci := 8) (v := .ref mwo) (C := RX10) (T := TX10) (N := 33) hx hb hts iX10_firstHalf_X10 hown hK hP 0 rfl rfl 1 (by decide) (hts (.fieldLink RX10 9 "LuckyTicketModel" "world" "[I") (List.mem_of_getElem? (i := 1) rfl)) (fun _ h9 => h9) rfl dX10_firstHalf_2 ?_
  refine lv_iconst (v := 0) hx hb dX10_firstHalf_5 (by decide) ?_
  refine va_iald hx hb hK hP 1 0 rfl rfl (vp_in_b (by decide : (0 : Int) ≤ (0 : Int32).toInt ∧ (0 : Int32).toInt ≤ 0) (by decide) (by decide)) dX10_firstHalf_6 ?_
  refine lv_topi (fun z_5 e_z_5 => ?_)
  obtain rfl : ln = z_5 := (e_z_5.trans hw0).symm
  refine lv_iconst (v := 2) hx hb dX10_firstHalf_7 (by decide) ?_
  refine lv_idiv hx hb dX10_firstHalf_8 (by decide) ?_
  refine lv_topi (fun z_6 e_z_6 => ?_)
  obtain ⟨q_z_6, b_z_6⟩ := ti_div (hi := 6) e_z_6 rfl (by decide : (2 : Int32).toInt = 2) b_ln (by decide : (2 : Int) ≤ (2 : Int32).toInt ∧ (2 : Int32).toInt ≤ 2) (by decide)
  refine lv_ishl hx hb dX10_firstHalf_9 ?_
  refine lv_topi (fun z_7 e_z_7 => ?_)
  refine lv_iconst (v := 1) hx hb dX10_firstHalf_10 (by decide) ?_
  refine lv_isub hx hb dX10_firstHalf_11 ?_
  refine lv_topi (fun z_8 e_z_8 => ?_)
  exact W.iret (v := z_8) hx hb hr (fun t ht hW => ⟨z_8, rfl, trivial, ht⟩) t_nil dX10_firstHalf_12
theorem dX10_lastHalf_0 : decode cX10_lastHalf 0 = .ok (.aload_n 0, 1) := by decide +kernel
theorem dX10_lastHalf_1 : decode cX10_lastHalf 1 = .ok (.invokevirtual 274, 3) := by decide +kernel
theorem dX10_lastHalf_4 : decode cX10_lastHalf 4 = .ok (.aload_n 0, 1) := by decide +kernel
theorem dX10_lastHalf_5 : decode cX10_lastHalf 5 = .ok (.getfield 9, 3) := by decide +kernel
theorem dX10_lastHalf_8 : decode cX10_lastHalf 8 = .ok (.iconst 0, 1) := by decide +kernel
theorem dX10_lastHalf_9 : decode cX10_lastHalf 9 = .ok (.iaload, 1) := by decide +kernel
theorem dX10_lastHalf_10 : decode cX10_lastHalf 10 = .ok (.aload_n 0, 1) := by decide +kernel
theorem dX10_lastHalf_11 : decode cX10_lastHalf 11 = .ok (.getfield 9, 3) := by decide +kernel
theorem dX10_lastHalf_14 : decode cX10_lastHalf 14 = .ok (.iconst 0, 1) := by decide +kernel
theorem dX10_lastHalf_15 : decode cX10_lastHalf 15 = .ok (.iaload, 1) := by decide +kernel
theorem dX10_lastHalf_16 : decode cX10_lastHalf 16 = .ok (.iconst 2, 1) := by decide +kernel
theorem dX10_lastHalf_17 : decode cX10_lastHalf 17 = .ok (.idiv, 1) := by decide +kernel
theorem dX10_lastHalf_18 : decode cX10_lastHalf 18 = .ok (.isub, 1) := by decide +kernel
theorem dX10_lastHalf_19 : decode cX10_lastHalf 19 = .ok (.ishl, 1) := by decide +kernel
theorem dX10_lastHalf_20 : decode cX10_lastHalf 20 = .ok (.ireturn, 1) := by decide +kernel
theorem hd_yX10_lastHalf : yX10_lastHalf.cls = RX10 ∧ yX10_lastHalf.cls ≠ "java/lang/invoke/MethodHandle" ∧ yX10_lastHalf.cls ≠ "java/lang/invoke/VarHandle" ∧ (parseMethodDescriptor yX10_lastHalf.desc).map (fun d => d.parameters.length) = some 0 := by decide +kernel
def uX10_lastHalf : List Cond := List.cons (.code yX10_lastHalf cX10_lastHalf 1 (some .int)) (HAppend.hAppend ([.methodLink RX10 274 yX10_firstHalf, .instanceMethod yX10_firstHalf, .selects RX10 yX10_firstHalf yX10_firstHalf, .initialized RX10, .fieldLink RX10 9 "LuckyTicketModel" "world" "[I"] : List Cond) (HAppend.hAppend uX10_firstHalf wsX100))
theorem iX10_lastHalf_X10 : ∀ w ∈ wsX100, w ∈ uX10_lastHalf := fun _ h => (List.mem_cons_of_mem _ (List.mem_append_right _ (List.mem_append_right _ h)))
theorem guX10_lastHalf : GU uX10_lastHalf := gu_cons (gu_app (by decide +kernel) (gu_ap guX10_firstHalf gws_X10))
theorem gX10_lastHalf__X10_firstHalf_V274 : GoodIn uX10_lastHalf (wsV RX10 274 RX10 yX10_firstHalf uX10_firstHalf) := gin_V (List.mem_of_getElem? (i := 1) rfl) (List.mem_of_getElem? (i := 2) rfl) (List.mem_of_getElem? (i := 3) rfl) (List.mem_of_getElem? (i := 4) rfl) (fun _ h => (List.mem_cons_of_mem _ (List.mem_append_right _ (List.mem_append_left _ h)))) guX10_firstHalf
set_option maxHeartbeats 4000000 in
set_option maxRecDepth 100000 in
theorem kX10_lastHalf (l : Launch) (dC : Nat → ClassId) (dI : Nat → Nat → Nat) (o0 : Nat) (x_th : Int32) (mwo : Nat) (mim : Nat) (mhi : Nat) (mlu : Nat) (mtp : Nat) (x_td : Int32) (mfv : Nat) (x_sz : Int32) (x_at : Int32) (x_fr : Int32) (x_to : Int32) (x_va : Int32) (x_fk : Int32) (x_fp : Int32) (mfr : Nat) (mwt : Nat) (x_wt : Int32) (x_op : Int32) (x_jo : Int32) (mfg : Nat) (mpl : Nat) (x_dr : Int64) (mtm : Nat) (mfa : Nat) (mqu : Nat) (mmo : Nat) (mwy : Nat) (mwn : Nat) (mma : Nat) (mwi : Nat) (mnu : Nat) (mmv : Nat) (c_wo : ClassId) (w_wo : Nat → Int32) (ln : Int32) (bs : Int32) (tk : Int32) (lw : Int32) (li : Int32) (b_ln : (0 : Int) ≤ ln.toInt ∧ ln.toInt ≤ 12) (b_bs : (0 : Int) ≤ bs.toInt ∧ bs.toInt ≤ 16) (b_tk : (0 : Int) ≤ tk.toInt ∧ tk.toInt ≤ 20000) (b_lw : (0 : Int) ≤ lw.toInt ∧ lw.toInt ≤ 9) (hw0 : w_wo 0 = ln) (hw1 : w_wo 1 = bs) (hw2 : w_wo 2 = tk) (hw3 : w_wo 3 = lw) (hw4 : w_wo 4 = li) (hwz : (ln.toInt = 0 ∧ bs.toInt = 0 ∧ tk.toInt = 0 ∧ lw.toInt = 0) ∨ (1 ≤ ln.toInt ∧ 2 ≤ bs.toInt ∧ 1 ≤ tk.toInt)) : Met l yX10_lastHalf uX10_lastHalf ({ frames := 1, cells := 0, slots := 0, locals := 20 }) (va_Pc [.ref o0] (pw (dC, dI) vwCl [(o0, .inr (8, [.int x_th, .ref mwo, .ref mim, .ref mhi, .ref mlu, .ref mtp, .int x_td, .ref mfv, .int x_sz, .int x_at, .int x_fr, .int x_to, .int x_va, .int x_fk, .int x_fp, .ref mfr, .ref mwt, .int x_wt, .int x_op, .int x_jo, .ref mfg, .ref mpl, .long x_dr, .ref mtm, .ref mfa, .ref mqu, .ref mmo, .ref mwy, .ref mwn, .ref mma, .ref mwi, .ref mnu, .ref mmv])), (mwo, .inl (c_wo, 1875, .inl w_wo))] [(c_wo, .int)])) (vp_Si (fun r => True)) 0 0 (fun _ => False) := by
  refine Met.ofW (cc := cX10_lastHalf) (maxL := 1) (ret := (some .int)) pn_X10 rfl ?_
  intro p e s m args below meth c s₁ B hml hv
  obtain ⟨rfl, hP, hK, hN⟩ := hv
  have hx := B.exec
  have hb := B.bytes
  have hr := B.returns
  have hts := atoms_spec (ws := uX10_lastHalf) B.pre
  have hown : s.vm.findClass RX10 = some m.cls := hown_of B.named rfl
  have hlocks := B.notSynchronized
  have hl := lv_entry ([.ref o0]) (n := 1) (Nat.le_of_ble_eq_true rfl)
  rw [lg_entry_eq]
  generalize (lg_sl ([.ref o0]) ++ List.replicate (1 - (lg_sl ([.ref o0])).length) Slot.unset).toArray = ls at hl ⊢
  have hl : lv_has ls 1 [(0, .ref o0)] := hl
  refine lv_aload_n hx hb dX10_lastHalf_0 rfl (lv_at hl 0 rfl) ?_
  refine vp_callSi (W.runV (As := []) (rest := []) ⟨hx, hb, hml, hown, hts⟩ (kX10_firstHalf l dC dI o0 x_th mwo mim mhi mlu mtp x_td mfv x_sz x_at x_fr x_to x_va x_fk x_fp mfr mwt x_wt x_op x_jo mfg mpl x_dr mtm mfa mqu mmo mwy mwn mma mwi mnu mmv c_wo w_wo ln bs tk lw li b_ln b_bs b_tk b_lw (hw0) (hw1) (hw2) (hw3) (hw4) (hwz)) (cwV 0 hts gX10_lastHalf__X10_firstHalf_V274 rfl rfl rfl hd_yX10_firstHalf ⟨lel 1 1 rfl, lel 20 20 rfl⟩) ⟨pw_fb, rcv_X10 hK hP (q0 := 0) rfl, (pw_use hP hK hN [0, 1] rfl [0] rfl)⟩ rfl rfl hl.1 rfl (lv_room (Nat.le_of_ble_eq_true rfl)) dX10_lastHalf_1 ⟨lel 0 0 rfl, lel 0 0 rfl⟩) (fun r_7 h_r_7 => ?_)
  refine lv_aload_n hx hb dX10_lastHalf_4 rfl (lv_at hl 0 rfl) ?_
  refine va_get (D := (dC, dI)) (ci := 8) (v := .ref mwo) (C := RX10) (T := TX10) (N := 33) hx hb hts iX10_lastHalf_X10 hown hK hP 0 rfl rfl 1 (by decide) (hts (.fieldLink RX10 9 "LuckyTicketModel" "world" "[I") (List.mem_of_getElem? (i := 5) rfl)) (fun _ h9 => h9) rfl dX10_lastHalf_5 ?_
  refine lv_iconst (v := 0) hx hb dX10_lastHalf_8 (by decide) ?_
  refine va_iald hx hb hK hP 1 0 rfl rfl (vp_in_b (by decide : (0 : Int) ≤ (0 : Int32).toInt ∧ (0 : Int32).toInt ≤ 0) (by decide) (by decide)) dX10_lastHalf_9 ?_
  refine lv_topi (fun z_8 e_z_8 => ?_)
  obtain rfl : ln = z_8 := (e_z_8.trans hw0).symm
  refine lv_aload_n hx hb dX10_lastHalf_10 rfl (lv_at hl 0 rfl) ?_
  refine va_get (D := (dC, dI)) (ci := 8) (v := .ref mwo) (C := RX10) (T := TX10) (N := 33) hx hb hts iX10_lastHalf_X10 hown hK hP 0 rfl rfl 1 (by decide) (hts (.fieldLink RX10 9 "LuckyTicketModel" "world" "[I") (List.mem_of_getElem? (i := 5) rfl)) (fun _ h9 => h9) rfl dX10_lastHalf_11 ?_
  refine lv_iconst (v := 0) hx hb dX10_lastHalf_14 (by decide) ?_
  refine va_iald hx hb hK hP 1 0 rfl rfl (vp_in_b (by decide : (0 : Int) ≤ (0 : Int32).toInt ∧ (0 : Int32).toInt ≤ 0) (by decide) (by decide)) dX10_lastHalf_15 ?_
  refine lv_topi (fun z_9 e_z_9 => ?_)
  obtain rfl : ln = z_9 := (e_z_9.trans hw0).symm
  refine lv_iconst (v := 2) hx hb dX10_lastHalf_16 (by decide) ?_
  refine lv_idiv hx hb dX10_lastHalf_17 (by decide) ?_
  refine lv_topi (fun z_10 e_z_10 => ?_)
  obtain ⟨q_z_10, b_z_10⟩ := ti_div (hi := 6) e_z_10 rfl (by decide : (2 : Int32).toInt = 2) b_ln (by decide : (2 : Int) ≤ (2 : Int32).toInt ∧ (2 : Int32).toInt ≤ 2) (by decide)
  refine lv_isub hx hb dX10_lastHalf_18 ?_
  refine lv_topi (fun z_11 e_z_11 => ?_)
  obtain ⟨q_z_11, b_z_11⟩ := ti_sub (lo := -6) (hi := 12) e_z_11 rfl rfl b_ln b_z_10 (by decide)
  refine lv_ishl hx hb dX10_lastHalf_19 ?_
  refine lv_topi (fun z_12 e_z_12 => ?_)
  exact W.iret (v := z_12) hx hb hr (fun t ht hW => ⟨z_12, rfl, trivial, ht⟩) t_nil dX10_lastHalf_20
theorem dX10_evens_0 : decode cX10_evens 0 = .ok (.aload_n 0, 1) := by decide +kernel
theorem dX10_evens_1 : decode cX10_evens 1 = .ok (.invokevirtual 277, 3) := by decide +kernel
theorem dX10_evens_4 : decode cX10_evens 4 = .ok (.sipush 1365, 3) := by decide +kernel
theorem dX10_evens_7 : decode cX10_evens 7 = .ok (.iand, 1) := by decide +kernel
theorem dX10_evens_8 : decode cX10_evens 8 = .ok (.ireturn, 1) := by decide +kernel
theorem hd_yX10_evens : yX10_evens.cls = RX10 ∧ yX10_evens.cls ≠ "java/lang/invoke/MethodHandle" ∧ yX10_evens.cls ≠ "java/lang/invoke/VarHandle" ∧ (parseMethodDescriptor yX10_evens.desc).map (fun d => d.parameters.length) = some 0 := by decide +kernel
def uX10_evens : List Cond := List.cons (.code yX10_evens cX10_evens 1 (some .int)) (HAppend.hAppend ([.methodLink RX10 277 yX10_all, .instanceMethod yX10_all, .selects RX10 yX10_all yX10_all, .initialized RX10] : List Cond) uX10_all)
theorem guX10_evens : GU uX10_evens := gu_cons (gu_app (by decide +kernel) guX10_all)
theorem gX10_evens__X10_all_V277 : GoodIn uX10_evens (wsV RX10 277 RX10 yX10_all uX10_all) := gin_V (List.mem_of_getElem? (i := 1) rfl) (List.mem_of_getElem? (i := 2) rfl) (List.mem_of_getElem? (i := 3) rfl) (List.mem_of_getElem? (i := 4) rfl) (fun _ h => (List.mem_cons_of_mem _ (List.mem_append_right _ h))) guX10_all
set_option maxHeartbeats 4000000 in
set_option maxRecDepth 100000 in
theorem kX10_evens (l : Launch) (dC : Nat → ClassId) (dI : Nat → Nat → Nat) (o0 : Nat) (x_th : Int32) (mwo : Nat) (mim : Nat) (mhi : Nat) (mlu : Nat) (mtp : Nat) (x_td : Int32) (mfv : Nat) (x_sz : Int32) (x_at : Int32) (x_fr : Int32) (x_to : Int32) (x_va : Int32) (x_fk : Int32) (x_fp : Int32) (mfr : Nat) (mwt : Nat) (x_wt : Int32) (x_op : Int32) (x_jo : Int32) (mfg : Nat) (mpl : Nat) (x_dr : Int64) (mtm : Nat) (mfa : Nat) (mqu : Nat) (mmo : Nat) (mwy : Nat) (mwn : Nat) (mma : Nat) (mwi : Nat) (mnu : Nat) (mmv : Nat) (c_wo : ClassId) (w_wo : Nat → Int32) (ln : Int32) (bs : Int32) (tk : Int32) (lw : Int32) (li : Int32) (b_ln : (0 : Int) ≤ ln.toInt ∧ ln.toInt ≤ 12) (b_bs : (0 : Int) ≤ bs.toInt ∧ bs.toInt ≤ 16) (b_tk : (0 : Int) ≤ tk.toInt ∧ tk.toInt ≤ 20000) (b_lw : (0 : Int) ≤ lw.toInt ∧ lw.toInt ≤ 9) (hw0 : w_wo 0 = ln) (hw1 : w_wo 1 = bs) (hw2 : w_wo 2 = tk) (hw3 : w_wo 3 = lw) (hw4 : w_wo 4 = li) (hwz : (ln.toInt = 0 ∧ bs.toInt = 0 ∧ tk.toInt = 0 ∧ lw.toInt = 0) ∨ (1 ≤ ln.toInt ∧ 2 ≤ bs.toInt ∧ 1 ≤ tk.toInt)) : Met l yX10_evens uX10_evens ({ frames := 1, cells := 0, slots := 0, locals := 20 }) (va_Pc [.ref o0] (pw (dC, dI) vwCl [(o0, .inr (8, [.int x_th, .ref mwo, .ref mim, .ref mhi, .ref mlu, .ref mtp, .int x_td, .ref mfv, .int x_sz, .int x_at, .int x_fr, .int x_to, .int x_va, .int x_fk, .int x_fp, .ref mfr, .ref mwt, .int x_wt, .int x_op, .int x_jo, .ref mfg, .ref mpl, .long x_dr, .ref mtm, .ref mfa, .ref mqu, .ref mmo, .ref mwy, .ref mwn, .ref mma, .ref mwi, .ref mnu, .ref mmv])), (mwo, .inl (c_wo, 1875, .inl w_wo))] [(c_wo, .int)])) (vp_Si (fun r => True)) 0 0 (fun _ => False) := by
  refine Met.ofW (cc := cX10_evens) (maxL := 1) (ret := (some .int)) pn_X10 rfl ?_
  intro p e s m args below meth c s₁ B hml hv
  obtain ⟨rfl, hP, hK, hN⟩ := hv
  have hx := B.exec
  have hb := B.bytes
  have hr := B.returns
  have hts := atoms_spec (ws := uX10_evens) B.pre
  have hown : s.vm.findClass RX10 = some m.cls := hown_of B.named rfl
  have hlocks := B.notSynchronized
  have hl := lv_entry ([.ref o0]) (n := 1) (Nat.le_of_ble_eq_true rfl)
  rw [lg_entry_eq]
  generalize (lg_sl ([.ref o0]) ++ List.replicate (1 - (lg_sl ([.ref o0])).length) Slot.unset).toArray = ls at hl ⊢
  have hl : lv_has ls 1 [(0, .ref o0)] := hl
  refine lv_aload_n hx hb dX10_evens_0 rfl (lv_at hl 0 rfl) ?_
  refine vp_callSi (W.runV (As := []) (rest := []) ⟨hx, hb, hml, hown, hts⟩ (kX10_all l dC dI o0 x_th mwo mim mhi mlu mtp x_td mfv x_sz x_at x_fr x_to x_va x_fk x_fp mfr mwt x_wt x_op x_jo mfg mpl x_dr mtm mfa mqu mmo mwy mwn mma mwi mnu mmv c_wo w_wo ln bs tk lw li b_ln b_bs b_tk b_lw (hw0) (hw1) (hw2) (hw3) (hw4) (hwz)) (cwV 0 hts gX10_evens__X10_all_V277 rfl rfl rfl hd_yX10_all ⟨lel 1 1 rfl, lel 20 20 rfl⟩) ⟨pw_fb, rcv_X10 hK hP (q0 := 0) rfl, (pw_use hP hK hN [0, 1] rfl [0] rfl)⟩ rfl rfl hl.1 rfl (lv_room (Nat.le_of_ble_eq_true rfl)) dX10_evens_1 ⟨lel 0 0 rfl, lel 0 0 rfl⟩) (fun r_3 h_r_3 => ?_)
  refine lv_sipush (v := 1365) hx hb dX10_evens_4 (by decide) ?_
  refine lv_iand hx hb dX10_evens_7 ?_
  refine lv_topi (fun z_4 e_z_4 => ?_)
  exact W.iret (v := z_4) hx hb hr (fun t ht hW => ⟨z_4, rfl, trivial, ht⟩) t_nil dX10_evens_8
theorem dX10_isMirror_0 : decode cX10_isMirror 0 = .ok (.iconst 1, 1) := by decide +kernel
theorem dX10_isMirror_1 : decode cX10_isMirror 1 = .ok (.istore_n 1, 1) := by decide +kernel
theorem dX10_isMirror_2 : decode cX10_isMirror 2 = .ok (.iconst 0, 1) := by decide +kernel
theorem dX10_isMirror_3 : decode cX10_isMirror 3 = .ok (.istore_n 2, 1) := by decide +kernel
theorem dX10_isMirror_4 : decode cX10_isMirror 4 = .ok (.iload_n 2, 1) := by decide +kernel
theorem dX10_isMirror_5 : decode cX10_isMirror 5 = .ok (.aload_n 0, 1) := by decide +kernel
theorem dX10_isMirror_6 : decode cX10_isMirror 6 = .ok (.getfield 9, 3) := by decide +kernel
theorem dX10_isMirror_9 : decode cX10_isMirror 9 = .ok (.iconst 0, 1) := by decide +kernel
theorem dX10_isMirror_10 : decode cX10_isMirror 10 = .ok (.iaload, 1) := by decide +kernel
theorem dX10_isMirror_11 : decode cX10_isMirror 11 = .ok (.if_icmp .ge 43, 3) := by decide +kernel
theorem dX10_isMirror_14 : decode cX10_isMirror 14 = .ok (.iload_n 1, 1) := by decide +kernel
theorem dX10_isMirror_15 : decode cX10_isMirror 15 = .ok (.ifCond .eq 31, 3) := by decide +kernel
theorem dX10_isMirror_18 : decode cX10_isMirror 18 = .ok (.aload_n 0, 1) := by decide +kernel
theorem dX10_isMirror_19 : decode cX10_isMirror 19 = .ok (.getfield 40, 3) := by decide +kernel
theorem dX10_isMirror_22 : decode cX10_isMirror 22 = .ok (.iload_n 2, 1) := by decide +kernel
theorem dX10_isMirror_23 : decode cX10_isMirror 23 = .ok (.iaload, 1) := by decide +kernel
theorem dX10_isMirror_24 : decode cX10_isMirror 24 = .ok (.aload_n 0, 1) := by decide +kernel
theorem dX10_isMirror_25 : decode cX10_isMirror 25 = .ok (.getfield 40, 3) := by decide +kernel
theorem dX10_isMirror_28 : decode cX10_isMirror 28 = .ok (.aload_n 0, 1) := by decide +kernel
theorem dX10_isMirror_29 : decode cX10_isMirror 29 = .ok (.getfield 9, 3) := by decide +kernel
theorem dX10_isMirror_32 : decode cX10_isMirror 32 = .ok (.iconst 0, 1) := by decide +kernel
theorem dX10_isMirror_33 : decode cX10_isMirror 33 = .ok (.iaload, 1) := by decide +kernel
theorem dX10_isMirror_34 : decode cX10_isMirror 34 = .ok (.iconst 1, 1) := by decide +kernel
theorem dX10_isMirror_35 : decode cX10_isMirror 35 = .ok (.isub, 1) := by decide +kernel
theorem dX10_isMirror_36 : decode cX10_isMirror 36 = .ok (.iload_n 2, 1) := by decide +kernel
theorem dX10_isMirror_37 : decode cX10_isMirror 37 = .ok (.isub, 1) := by decide +kernel
theorem dX10_isMirror_38 : decode cX10_isMirror 38 = .ok (.iaload, 1) := by decide +kernel
theorem dX10_isMirror_39 : decode cX10_isMirror 39 = .ok (.if_icmp .ne 7, 3) := by decide +kernel
theorem dX10_isMirror_42 : decode cX10_isMirror 42 = .ok (.iconst 1, 1) := by decide +kernel
theorem dX10_isMirror_43 : decode cX10_isMirror 43 = .ok (.goto 4, 3) := by decide +kernel
theorem dX10_isMirror_46 : decode cX10_isMirror 46 = .ok (.iconst 0, 1) := by decide +kernel
theorem dX10_isMirror_47 : decode cX10_isMirror 47 = .ok (.istore_n 1, 1) := by decide +kernel
theorem dX10_isMirror_48 : decode cX10_isMirror 48 = .ok (.iinc 2 1, 3) := by decide +kernel
theorem dX10_isMirror_51 : decode cX10_isMirror 51 = .ok (.goto (-47), 3) := by decide +kernel
theorem dX10_isMirror_54 : decode cX10_isMirror 54 = .ok (.iload_n 1, 1) := by decide +kernel
theorem dX10_isMirror_55 : decode cX10_isMirror 55 = .ok (.ireturn, 1) := by decide +kernel
theorem hd_yX10_isMirror : yX10_isMirror.cls = RX10 ∧ yX10_isMirror.cls ≠ "java/lang/invoke/MethodHandle" ∧ yX10_isMirror.cls ≠ "java/lang/invoke/VarHandle" ∧ (parseMethodDescriptor yX10_isMirror.desc).map (fun d => d.parameters.length) = some 0 := by decide +kernel
def uX10_isMirror : List Cond := List.cons (.code yX10_isMirror cX10_isMirror 3 (some .boolean)) (HAppend.hAppend ([.fieldLink RX10 9 "LuckyTicketModel" "world" "[I", .fieldLink RX10 40 "LuckyTicketModel" "figures" "[I"] : List Cond) wsX100)
theorem iX10_isMirror_X10 : ∀ w ∈ wsX100, w ∈ uX10_isMirror := fun _ h => (List.mem_cons_of_mem _ (List.mem_append_right _ h))
theorem guX10_isMirror : GU uX10_isMirror := gu_cons (gu_app (by decide +kernel) gws_X10)
set_option maxHeartbeats 4000000 in
set_option maxRecDepth 100000 in
theorem kX10_isMirror (l : Launch) (dC : Nat → ClassId) (dI : Nat → Nat → Nat) (o0 : Nat) (x_th : Int32) (mwo : Nat) (mim : Nat) (mhi : Nat) (mlu : Nat) (mtp : Nat) (x_td : Int32) (mfv : Nat) (x_sz : Int32) (x_at : Int32) (x_fr : Int32) (x_to : Int32) (x_va : Int32) (x_fk : Int32) (x_fp : Int32) (mfr : Nat) (mwt : Nat) (x_wt : Int32) (x_op : Int32) (x_jo : Int32) (mfg : Nat) (mpl : Nat) (x_dr : Int64) (mtm : Nat) (mfa : Nat) (mqu : Nat) (mmo : Nat) (mwy : Nat) (mwn : Nat) (mma : Nat) (mwi : Nat) (mnu : Nat) (mmv : Nat) (c_wo : ClassId) (c_fg : ClassId) (w_wo : Nat → Int32) (w_fg : Nat → Int32) (ln : Int32) (bs : Int32) (tk : Int32) (lw : Int32) (li : Int32) (b_ln : (0 : Int) ≤ ln.toInt ∧ ln.toInt ≤ 12) (b_bs : (0 : Int) ≤ bs.toInt ∧ bs.toInt ≤ 16) (b_tk : (0 : Int) ≤ tk.toInt ∧ tk.toInt ≤ 20000) (b_lw : (0 : Int) ≤ lw.toInt ∧ lw.toInt ≤ 9) (ha_mfg : rg w_fg 12 0 15) (hw0 : w_wo 0 = ln) (hw1 : w_wo 1 = bs) (hw2 : w_wo 2 = tk) (hw3 : w_wo 3 = lw) (hw4 : w_wo 4 = li) (hwz : (ln.toInt = 0 ∧ bs.toInt = 0 ∧ tk.toInt = 0 ∧ lw.toInt = 0) ∨ (1 ≤ ln.toInt ∧ 2 ≤ bs.toInt ∧ 1 ≤ tk.toInt)) : Met l yX10_isMirror uX10_isMirror ({ frames := 0, cells := 0, slots := 0, locals := 0 }) (va_Pc [.ref o0] (pw (dC, dI) vwCl [(o0, .inr (8, [.int x_th, .ref mwo, .ref mim, .ref mhi, .ref mlu, .ref mtp, .int x_td, .ref mfv, .int x_sz, .int x_at, .int x_fr, .int x_to, .int x_va, .int x_fk, .int x_fp, .ref mfr, .ref mwt, .int x_wt, .int x_op, .int x_jo, .ref mfg, .ref mpl, .long x_dr, .ref mtm, .ref mfa, .ref mqu, .ref mmo, .ref mwy, .ref mwn, .ref mma, .ref mwi, .ref mnu, .ref mmv])), (mwo, .inl (c_wo, 1875, .inl w_wo)), (mfg, .inl (c_fg, 12, .inl w_fg))] [(c_wo, .int), (c_fg, .int)])) (vp_Si (fun r => ((0 : Int) ≤ r.toInt ∧ r.toInt ≤ 1))) 0 0 (fun _ => False) := by
  refine Met.ofW (cc := cX10_isMirror) (maxL := 3) (ret := (some .boolean)) pn_X10 rfl ?_
  intro p e s m args below meth c s₁ B hml hv
  obtain ⟨rfl, hP, hK, hN⟩ := hv
  have hx := B.exec
  have hb := B.bytes
  have hr := B.returns
  have hts := atoms_spec (ws := uX10_isMirror) B.pre
  have hown : s.vm.findClass RX10 = some m.cls := hown_of B.named rfl
  have hlocks := B.notSynchronized
  have hl := lv_entry ([.ref o0]) (n := 3) (Nat.le_of_ble_eq_true rfl)
  rw [lg_entry_eq]
  generalize (lg_sl ([.ref o0]) ++ List.replicate (3 - (lg_sl ([.ref o0])).length) Slot.unset).toArray = ls at hl ⊢
  have hl : lv_has ls 3 [(0, .ref o0)] := hl
  refine lv_iconst (v := 1) hx hb dX10_isMirror_0 (by decide) ?_
  refine lv_istore_n (lv' := [(1, .int 1), (0, .ref o0)]) hx hb dX10_isMirror_1 rfl hl (by decide) rfl (fun ls hl => ?_)
  refine lv_iconst (v := 0) hx hb dX10_isMirror_2 (by decide) ?_
  refine lv_istore_n (lv' := [(2, .int 0), (1, .int 1), (0, .ref o0)]) hx hb dX10_isMirror_3 rfl hl (by decide) rfl (fun ls hl => ?_)
  refine loopP (σ := Int32 × Int32) (fun v => (12 - v.1.toInt).toNat) (fun v ls => ((0 : Int) ≤ v.1.toInt ∧ v.1.toInt ≤ 12) ∧ ((0 : Int) ≤ v.2.toInt ∧ v.2.toInt ≤ 1) ∧ lv_has ls 3 [(2, .int v.1), (1, .int v.2), (0, .ref o0)]) (fun v ls hI ih_4_145 => ?_) ((0 : Int32), (1 : Int32)) ⟨(show (0 : Int) ≤ (0 : Int32).toInt ∧ (0 : Int32).toInt ≤ 12 from (rg_w (by decide : (0 : Int) ≤ (0 : Int32).toInt ∧ (0 : Int32).toInt ≤ 0) (by decide) (by decide))), (show (0 : Int) ≤ (1 : Int32).toInt ∧ (1 : Int32).toInt ≤ 1 from (rg_w (by decide : (1 : Int) ≤ (1 : Int32).toInt ∧ (1 : Int32).toInt ≤ 1) (by decide) (by decide))), lv_sub hl [0, 1, 2] rfl⟩
  obtain ⟨y_93, y_94⟩ := v
  obtain ⟨b_y_93, b_y_94, hl⟩ := hI
  have b_y_93 : (0 : Int) ≤ y_93.toInt ∧ y_93.toInt ≤ 12 := b_y_93
  have b_y_94 : (0 : Int) ≤ y_94.toInt ∧ y_94.toInt ≤ 1 := b_y_94
  have hl : lv_has ls 3 [(2, .int y_93), (1, .int y_94), (0, .ref o0)] := hl
  refine lv_iload_n hx hb dX10_isMirror_4 rfl (lv_at hl 0 rfl) ?_
  refine lv_aload_n hx hb dX10_isMirror_5 rfl (lv_at hl 2 rfl) ?_
  refine va_get (D := (dC, dI)) (ci := 8) (v := .ref mwo) (C := RX10) (T := TX10) (N := 33) hx hb hts iX10_isMirror_X10 hown hK hP 0 rfl rfl 1 (by decide) (hts (.fieldLink RX10 9 "LuckyTicketModel" "world" "[I") (List.mem_of_getElem? (i := 1) rfl)) (fun _ h9 => h9) rfl dX10_isMirror_6 ?_
  refine lv_iconst (v := 0) hx hb dX10_isMirror_9 (by decide) ?_
  refine va_iald hx hb hK hP 1 0 rfl rfl (vp_in_b (by decide : (0 : Int) ≤ (0 : Int32).toInt ∧ (0 : Int32).toInt ≤ 0) (by decide) (by decide)) dX10_isMirror_10 ?_
  refine lv_topi (fun z_146 e_z_146 => ?_)
  obtain rfl : ln = z_146 := (e_z_146.trans hw0).symm
  refine lv_icmp_ge (tgt := 54) hx hb dX10_isMirror_11 (by decide) (fun c_147 => ?_) (fun c_147 => ?_)
  ·
    have n_c_147 : (ln.toInt : Int) ≤ y_93.toInt := c_ge rfl rfl c_147
    refine lv_iload_n hx hb dX10_isMirror_54 rfl (lv_at hl 1 rfl) ?_
    exact W.zret (v := y_94) hx hb hr (zn_b b_y_94) (fun t ht hW => ⟨y_94, rfl, b_y_94, ht⟩) t_nil dX10_isMirror_55
  ·
    have n_c_147 : (y_93.toInt : Int) < ln.toInt := c_nge rfl rfl c_147
    have b_y_93 : (0 : Int) ≤ y_93.toInt ∧ y_93.toInt ≤ 11 := r_lt1 b_y_93 b_ln n_c_147 (by decide)
    have b_ln : (1 : Int) ≤ ln.toInt ∧ ln.toInt ≤ 12 := r_lt2 b_y_93 b_ln n_c_147 (by decide)
    refine lv_iload_n hx hb dX10_isMirror_14 rfl (lv_at hl 1 rfl) ?_
    refine cutP (σ := Int32) (pc2 := 47) (st2 := fun v => [.int v]) (cells2 := 0) (slots2 := 0) (fun v ls => ((0 : Int) ≤ v.toInt ∧ v.toInt ≤ 1) ∧ lv_has ls 3 [(2, .int y_93), (1, .int y_94), (0, .ref o0)]) (fun v ls hI => ?_) (fun hj_47_155 => ?_)
    ·
      obtain ⟨y_155, rfl⟩ : ∃ z, z = v := ⟨_, rfl⟩
      obtain ⟨b_y_155, hl⟩ := hI
      have b_y_155 : (0 : Int) ≤ y_155.toInt ∧ y_155.toInt ≤ 1 := b_y_155
      have hl : lv_has ls 3 [(2, .int y_93), (1, .int y_94), (0, .ref o0)] := hl
      refine lv_istore_n (lv' := [(1, .int y_155), (2, .int y_93), (0, .ref o0)]) hx hb dX10_isMirror_47 rfl hl (by decide) rfl (fun ls hl => ?_)
      obtain ⟨z_156, e_z_156⟩ : ∃ y : Int32, y = y_93 + 1 := ⟨_, rfl⟩
      refine lv_iinc (v := z_156) (lv' := [(2, .int z_156), (1, .int y_155), (0, .ref o0)]) hx hb dX10_isMirror_48 hl (k := 1) rfl (by rw [e_z_156]; rfl) (by decide) rfl (fun ls hl => ?_)
      obtain ⟨q_z_156, b_z_156⟩ := ti_add (lo := 1) (hi := 12) e_z_156 rfl (by decide : (1 : Int32).toInt = 1) b_y_93 (by decide : (1 : Int) ≤ (1 : Int32).toInt ∧ (1 : Int32).toInt ≤ 1) (by decide)
      refine lv_goto (tgt := 4) hx hb dX10_isMirror_51 (by decide) ?_
      exact ih_4_145 (z_156, y_155) _ ⟨(show (0 : Int) ≤ z_156.toInt ∧ z_156.toInt ≤ 12 from (rg_w b_z_156 (by decide) (by decide))), (show (0 : Int) ≤ y_155.toInt ∧ y_155.toInt ≤ 1 from b_y_155), lv_sub hl [0, 1, 2] rfl⟩ (show (12 - z_156.toInt).toNat < (12 - y_93.toInt).toNat by omega)
    ·
      refine lv_if_eq (tgt := 46) hx hb dX10_isMirror_15 (by decide) (fun c_148 => ?_) (fun c_148 => ?_)
      ·
        have n_c_148 : (y_94.toInt : Int) = 0 := c_eq rfl (by decide) c_148
        have b_y_94 : (0 : Int) ≤ y_94.toInt ∧ y_94.toInt ≤ 0 := r_eq1 b_y_94 (by decide : (0 : Int) ≤ (0 : Int32).toInt ∧ (0 : Int32).toInt ≤ 0) n_c_148 (by decide)
        refine lv_iconst (v := 0) hx hb dX10_isMirror_46 (by decide) ?_
        exact hj_47_155 (0 : Int32) _ ⟨(show (0 : Int) ≤ (0 : Int32).toInt ∧ (0 : Int32).toInt ≤ 1 from (rg_w (by decide : (0 : Int) ≤ (0 : Int32).toInt ∧ (0 : Int32).toInt ≤ 0) (by decide) (by decide))), lv_sub hl [0, 1, 2] rfl⟩
      ·
        have n_c_148 : (y_94.toInt : Int) ≠ 0 := c_ne rfl (by decide) c_148
        have b_y_94 : (1 : Int) ≤ y_94.toInt ∧ y_94.toInt ≤ 1 := r_ne1 b_y_94 (by decide : (0 : Int) ≤ (0 : Int32).toInt ∧ (0 : Int32).toInt ≤ 0) n_c_148 (by decide)
        refine lv_aload_n hx hb dX10_isMirror_18 rfl (lv_at hl 2 rfl) ?_
        refine va_get (D := (dC, dI)) (ci := 8) (v := .ref mfg) (C := RX10) (T := TX10) (N := 33) hx hb hts iX10_isMirror_X10 hown hK hP 0 rfl rfl 20 (by decide) (hts (.fieldLink RX10 40 "LuckyTicketModel" "figures" "[I") (List.mem_of_getElem? (i := 2) rfl)) (fun _ h9 => h9) rfl dX10_isMirror_19 ?_
        refine lv_iload_n hx hb dX10_isMirror_22 rfl (lv_at hl 0 rfl) ?_
        refine va_iald hx hb hK hP 2 1 rfl rfl (vp_in_b b_y_93 (by decide) (by decide)) dX10_isMirror_23 ?_
        refine lv_topi (fun z_157 e_z_157 => ?_)
        have b_z_157 : (0 : Int) ≤ z_157.toInt ∧ z_157.toInt ≤ 15 := rg_at ha_mfg (vp_in_b b_y_93 (by decide) (by decide)) e_z_157
        refine lv_aload_n hx hb dX10_isMirror_24 rfl (lv_at hl 2 rfl) ?_
        refine va_get (D := (dC, dI)) (ci := 8) (v := .ref mfg) (C := RX10) (T := TX10) (N := 33) hx hb hts iX10_isMirror_X10 hown hK hP 0 rfl rfl 20 (by decide) (hts (.fieldLink RX10 40 "LuckyTicketModel" "figures" "[I") (List.mem_of_getElem? (i := 2) rfl)) (fun _ h9 => h9) rfl dX10_isMirror_25 ?_
        refine lv_aload_n hx hb dX10_isMirror_28 rfl (lv_at hl 2 rfl) ?_
        refine va_get (D := (dC, dI)) (ci := 8) (v := .ref mwo) (C := RX10) (T := TX10) (N := 33) hx hb hts iX10_isMirror_X10 hown hK hP 0 rfl rfl 1 (by decide) (hts (.fieldLink RX10 9 "LuckyTicketModel" "world" "[I") (List.mem_of_getElem? (i := 1) rfl)) (fun _ h9 => h9) rfl dX10_isMirror_29 ?_
        refine lv_iconst (v := 0) hx hb dX10_isMirror_32 (by decide) ?_
        refine va_iald hx hb hK hP 1 0 rfl rfl (vp_in_b (by decide : (0 : Int) ≤ (0 : Int32).toInt ∧ (0 : Int32).toInt ≤ 0) (by decide) (by decide)) dX10_isMirror_33 ?_
        refine lv_topi (fun z_158 e_z_158 => ?_)
        obtain rfl : ln = z_158 := (e_z_158.trans hw0).symm
        refine lv_iconst (v := 1) hx hb dX10_isMirror_34 (by decide) ?_
        refine lv_isub hx hb dX10_isMirror_35 ?_
        refine lv_topi (fun z_159 e_z_159 => ?_)
        obtain ⟨q_z_159, b_z_159⟩ := ti_sub (lo := 0) (hi := 11) e_z_159 rfl (by decide : (1 : Int32).toInt = 1) b_ln (by decide : (1 : Int) ≤ (1 : Int32).toInt ∧ (1 : Int32).toInt ≤ 1) (by decide)
        refine lv_iload_n hx hb dX10_isMirror_36 rfl (lv_at hl 0 rfl) ?_
        refine lv_isub hx hb dX10_isMirror_37 ?_
        refine lv_topi (fun z_160 e_z_160 => ?_)
        obtain ⟨q_z_160, b_z_160⟩ := ti_sub (lo := -11) (hi := 11) e_z_160 rfl rfl b_z_159 b_y_93 (by decide)
        refine va_iald hx hb hK hP 2 1 rfl rfl (vp_in_iff.mpr ⟨by omega, by omega⟩) dX10_isMirror_38 ?_
        refine lv_topi (fun z_161 e_z_161 => ?_)
        have b_z_161 : (0 : Int) ≤ z_161.toInt ∧ z_161.toInt ≤ 15 := rg_at ha_mfg (vp_in_iff.mpr ⟨by omega, by omega⟩) e_z_161
        refine lv_icmp_ne (tgt := 46) hx hb dX10_isMirror_39 (by decide) (fun c_162 => ?_) (fun c_162 => ?_)
        ·
          have n_c_162 : (z_157.toInt : Int) ≠ z_161.toInt := c_ne rfl rfl c_162
          refine lv_iconst (v := 0) hx hb dX10_isMirror_46 (by decide) ?_
          exact hj_47_155 (0 : Int32) _ ⟨(show (0 : Int) ≤ (0 : Int32).toInt ∧ (0 : Int32).toInt ≤ 1 from (rg_w (by decide : (0 : Int) ≤ (0 : Int32).toInt ∧ (0 : Int32).toInt ≤ 0) (by decide) (by decide))), lv_sub hl [0, 1, 2] rfl⟩
        ·
          have n_c_162 : (z_157.toInt : Int) = z_161.toInt := c_eq rfl rfl c_162
          refine lv_iconst (v := 1) hx hb dX10_isMirror_42 (by decide) ?_
          refine lv_goto (tgt := 47) hx hb dX10_isMirror_43 (by decide) ?_
          exact hj_47_155 (1 : Int32) _ ⟨(show (0 : Int) ≤ (1 : Int32).toInt ∧ (1 : Int32).toInt ≤ 1 from (rg_w (by decide : (1 : Int) ≤ (1 : Int32).toInt ∧ (1 : Int32).toInt ≤ 1) (by decide) (by decide))), lv_sub hl [0, 1, 2] rfl⟩
theorem dX10_unlikeMany_0 : decode cX10_unlikeMany 0 = .ok (.iconst 0, 1) := by decide +kernel
theorem dX10_unlikeMany_1 : decode cX10_unlikeMany 1 = .ok (.istore_n 1, 1) := by decide +kernel
theorem dX10_unlikeMany_2 : decode cX10_unlikeMany 2 = .ok (.iconst 0, 1) := by decide +kernel
theorem dX10_unlikeMany_3 : decode cX10_unlikeMany 3 = .ok (.istore_n 2, 1) := by decide +kernel
theorem dX10_unlikeMany_4 : decode cX10_unlikeMany 4 = .ok (.iload_n 2, 1) := by decide +kernel
theorem dX10_unlikeMany_5 : decode cX10_unlikeMany 5 = .ok (.aload_n 0, 1) := by decide +kernel
theorem dX10_unlikeMany_6 : decode cX10_unlikeMany 6 = .ok (.getfield 9, 3) := by decide +kernel
theorem dX10_unlikeMany_9 : decode cX10_unlikeMany 9 = .ok (.iconst 0, 1) := by decide +kernel
theorem dX10_unlikeMany_10 : decode cX10_unlikeMany 10 = .ok (.iaload, 1) := by decide +kernel
theorem dX10_unlikeMany_11 : decode cX10_unlikeMany 11 = .ok (.if_icmp .ge 20, 3) := by decide +kernel
theorem dX10_unlikeMany_14 : decode cX10_unlikeMany 14 = .ok (.iload_n 1, 1) := by decide +kernel
theorem dX10_unlikeMany_15 : decode cX10_unlikeMany 15 = .ok (.iconst 1, 1) := by decide +kernel
theorem dX10_unlikeMany_16 : decode cX10_unlikeMany 16 = .ok (.aload_n 0, 1) := by decide +kernel
theorem dX10_unlikeMany_17 : decode cX10_unlikeMany 17 = .ok (.getfield 40, 3) := by decide +kernel
theorem dX10_unlikeMany_20 : decode cX10_unlikeMany 20 = .ok (.iload_n 2, 1) := by decide +kernel
theorem dX10_unlikeMany_21 : decode cX10_unlikeMany 21 = .ok (.iaload, 1) := by decide +kernel
theorem dX10_unlikeMany_22 : decode cX10_unlikeMany 22 = .ok (.ishl, 1) := by decide +kernel
theorem dX10_unlikeMany_23 : decode cX10_unlikeMany 23 = .ok (.ior, 1) := by decide +kernel
theorem dX10_unlikeMany_24 : decode cX10_unlikeMany 24 = .ok (.istore_n 1, 1) := by decide +kernel
theorem dX10_unlikeMany_25 : decode cX10_unlikeMany 25 = .ok (.iinc 2 1, 3) := by decide +kernel
theorem dX10_unlikeMany_28 : decode cX10_unlikeMany 28 = .ok (.goto (-24), 3) := by decide +kernel
theorem dX10_unlikeMany_31 : decode cX10_unlikeMany 31 = .ok (.iconst 0, 1) := by decide +kernel
theorem dX10_unlikeMany_32 : decode cX10_unlikeMany 32 = .ok (.istore_n 2, 1) := by decide +kernel
theorem dX10_unlikeMany_33 : decode cX10_unlikeMany 33 = .ok (.iconst 0, 1) := by decide +kernel
theorem dX10_unlikeMany_34 : decode cX10_unlikeMany 34 = .ok (.istore_n 3, 1) := by decide +kernel
theorem dX10_unlikeMany_35 : decode cX10_unlikeMany 35 = .ok (.iload_n 3, 1) := by decide +kernel
theorem dX10_unlikeMany_36 : decode cX10_unlikeMany 36 = .ok (.bipush 16, 2) := by decide +kernel
theorem dX10_unlikeMany_38 : decode cX10_unlikeMany 38 = .ok (.if_icmp .ge 17, 3) := by decide +kernel
theorem dX10_unlikeMany_41 : decode cX10_unlikeMany 41 = .ok (.iload_n 2, 1) := by decide +kernel
theorem dX10_unlikeMany_42 : decode cX10_unlikeMany 42 = .ok (.iload_n 1, 1) := by decide +kernel
theorem dX10_unlikeMany_43 : decode cX10_unlikeMany 43 = .ok (.iload_n 3, 1) := by decide +kernel
theorem dX10_unlikeMany_44 : decode cX10_unlikeMany 44 = .ok (.ishr, 1) := by decide +kernel
theorem dX10_unlikeMany_45 : decode cX10_unlikeMany 45 = .ok (.iconst 1, 1) := by decide +kernel
theorem dX10_unlikeMany_46 : decode cX10_unlikeMany 46 = .ok (.iand, 1) := by decide +kernel
theorem dX10_unlikeMany_47 : decode cX10_unlikeMany 47 = .ok (.iadd, 1) := by decide +kernel
theorem dX10_unlikeMany_48 : decode cX10_unlikeMany 48 = .ok (.istore_n 2, 1) := by decide +kernel
theorem dX10_unlikeMany_49 : decode cX10_unlikeMany 49 = .ok (.iinc 3 1, 3) := by decide +kernel
theorem dX10_unlikeMany_52 : decode cX10_unlikeMany 52 = .ok (.goto (-17), 3) := by decide +kernel
theorem dX10_unlikeMany_55 : decode cX10_unlikeMany 55 = .ok (.iload_n 2, 1) := by decide +kernel
theorem dX10_unlikeMany_56 : decode cX10_unlikeMany 56 = .ok (.ireturn, 1) := by decide +kernel
theorem hd_yX10_unlikeMany : yX10_unlikeMany.cls = RX10 ∧ yX10_unlikeMany.cls ≠ "java/lang/invoke/MethodHandle" ∧ yX10_unlikeMany.cls ≠ "java/lang/invoke/VarHandle" ∧ (parseMethodDescriptor yX10_unlikeMany.desc).map (fun d => d.parameters.length) = some 0 := by decide +kernel
def uX10_unlikeMany : List Cond := List.cons (.code yX10_unlikeMany cX10_unlikeMany 4 (some .int)) (HAppend.hAppend ([.fieldLink RX10 9 "LuckyTicketModel" "world" "[I", .fieldLink RX10 40 "LuckyTicketModel" "figures" "[I"] : List Cond) wsX100)
theorem iX10_unlikeMany_X10 : ∀ w ∈ wsX100, w ∈ uX10_unlikeMany := fun _ h => (List.mem_cons_of_mem _ (List.mem_append_right _ h))
theorem guX10_unlikeMany : GU uX10_unlikeMany := gu_cons (gu_app (by decide +kernel) gws_X10)
set_option maxHeartbeats 4000000 in
set_option maxRecDepth 100000 in
theorem kX10_unlikeMany (l : Launch) (dC : Nat → ClassId) (dI : Nat → Nat → Nat) (o0 : Nat) (x_th : Int32) (mwo : Nat) (mim : Nat) (mhi : Nat) (mlu : Nat) (mtp : Nat) (x_td : Int32) (mfv : Nat) (x_sz : Int32) (x_at : Int32) (x_fr : Int32) (x_to : Int32) (x_va : Int32) (x_fk : Int32) (x_fp : Int32) (mfr : Nat) (mwt : Nat) (x_wt : Int32) (x_op : Int32) (x_jo : Int32) (mfg : Nat) (mpl : Nat) (x_dr : Int64) (mtm : Nat) (mfa : Nat) (mqu : Nat) (mmo : Nat) (mwy : Nat) (mwn : Nat) (mma : Nat) (mwi : Nat) (mnu : Nat) (mmv : Nat) (c_wo : ClassId) (c_fg : ClassId) (w_wo : Nat → Int32) (w_fg : Nat → Int32) (ln : Int32) (bs : Int32) (tk : Int32) (lw : Int32) (li : Int32) (b_ln : (0 : Int) ≤ ln.toInt ∧ ln.toInt ≤ 12) (b_bs : (0 : Int) ≤ bs.toInt ∧ bs.toInt ≤ 16) (b_tk : (0 : Int) ≤ tk.toInt ∧ tk.toInt ≤ 20000) (b_lw : (0 : Int) ≤ lw.toInt ∧ lw.toInt ≤ 9) (ha_mfg : rg w_fg 12 0 15) (hw0 : w_wo 0 = ln) (hw1 : w_wo 1 = bs) (hw2 : w_wo 2 = tk) (hw3 : w_wo 3 = lw) (hw4 : w_wo 4 = li) (hwz : (ln.toInt = 0 ∧ bs.toInt = 0 ∧ tk.toInt = 0 ∧ lw.toInt = 0) ∨ (1 ≤ ln.toInt ∧ 2 ≤ bs.toInt ∧ 1 ≤ tk.toInt)) : Met l yX10_unlikeMany uX10_unlikeMany ({ frames := 0, cells := 0, slots := 0, locals := 0 }) (va_Pc [.ref o0] (pw (dC, dI) vwCl [(o0, .inr (8, [.int x_th, .ref mwo, .ref mim, .ref mhi, .ref mlu, .ref mtp, .int x_td, .ref mfv, .int x_sz, .int x_at, .int x_fr, .int x_to, .int x_va, .int x_fk, .int x_fp, .ref mfr, .ref mwt, .int x_wt, .int x_op, .int x_jo, .ref mfg, .ref mpl, .long x_dr, .ref mtm, .ref mfa, .ref mqu, .ref mmo, .ref mwy, .ref mwn, .ref mma, .ref mwi, .ref mnu, .ref mmv])), (mwo, .inl (c_wo, 1875, .inl w_wo)), (mfg, .inl (c_fg, 12, .inl w_fg))] [(c_wo, .int), (c_fg, .int)])) (vp_Si (fun r => True)) 0 0 (fun _ => False) := by
  refine Met.ofW (cc := cX10_unlikeMany) (maxL := 4) (ret := (some .int)) pn_X10 rfl ?_
  intro p e s m args below meth c s₁ B hml hv
  obtain ⟨rfl, hP, hK, hN⟩ := hv
  have hx := B.exec
  have hb := B.bytes
  have hr := B.returns
  have hts := atoms_spec (ws := uX10_unlikeMany) B.pre
  have hown : s.vm.findClass RX10 = some m.cls := hown_of B.named rfl
  have hlocks := B.notSynchronized
  have hl := lv_entry ([.ref o0]) (n := 4) (Nat.le_of_ble_eq_true rfl)
  rw [lg_entry_eq]
  generalize (lg_sl ([.ref o0]) ++ List.replicate (4 - (lg_sl ([.ref o0])).length) Slot.unset).toArray = ls at hl ⊢
  have hl : lv_has ls 4 [(0, .ref o0)] := hl
  refine lv_iconst (v := 0) hx hb dX10_unlikeMany_0 (by decide) ?_
  refine lv_istore_n (lv' := [(1, .int 0), (0, .ref o0)]) hx hb dX10_unlikeMany_1 rfl hl (by decide) rfl (fun ls hl => ?_)
  refine lv_iconst (v := 0) hx hb dX10_unlikeMany_2 (by decide) ?_
  refine lv_istore_n (lv' := [(2, .int 0), (1, .int 0), (0, .ref o0)]) hx hb dX10_unlikeMany_3 rfl hl (by decide) rfl (fun ls hl => ?_)
  refine loopP (σ := Int32 × Int32) (fun v => (12 - v.1.toInt).toNat) (fun v ls => ((0 : Int) ≤ v.1.toInt ∧ v.1.toInt ≤ 12) ∧ lv_has ls 4 [(2, .int v.1), (1, .int v.2), (0, .ref o0)]) (fun v ls hI ih_4_877 => ?_) ((0 : Int32), (0 : Int32)) ⟨(show (0 : Int) ≤ (0 : Int32).toInt ∧ (0 : Int32).toInt ≤ 12 from (rg_w (by decide : (0 : Int) ≤ (0 : Int32).toInt ∧ (0 : Int32).toInt ≤ 0) (by decide) (by decide))), lv_sub hl [0, 1, 2] rfl⟩
  obtain ⟨y_585, y_586⟩ := v
  obtain ⟨b_y_585, hl⟩ := hI
  have b_y_585 : (0 : Int) ≤ y_585.toInt ∧ y_585.toInt ≤ 12 := b_y_585
  have hl : lv_has ls 4 [(2, .int y_585), (1, .int y_586), (0, .ref o0)] := hl
  refine lv_iload_n hx hb dX10_unlikeMany_4 rfl (lv_at hl 0 rfl) ?_
  refine lv_aload_n hx hb dX10_unlikeMany_5 rfl (lv_at hl 2 rfl) ?_
  refine va_get (D := (dC, dI)) (ci := 8) (v := .ref mwo) (C := RX10) (T := TX10) (N := 33) hx hb hts iX10_unlikeMany_X10 hown hK hP 0 rfl rfl 1 (by decide) (hts (.fieldLink RX10 9 "LuckyTicketModel" "world" "[I") (List.mem_of_getElem? (i := 1) rfl)) (fun _ h9 => h9) rfl dX10_unlikeMany_6 ?_
  refine lv_iconst (v := 0) hx hb dX10_unlikeMany_9 (by decide) ?_
  refine va_iald hx hb hK hP 1 0 rfl rfl (vp_in_b (by decide : (0 : Int) ≤ (0 : Int32).toInt ∧ (0 : Int32).toInt ≤ 0) (by decide) (by decide)) dX10_unlikeMany_10 ?_
  refine lv_topi (fun z_878 e_z_878 => ?_)
  obtain rfl : ln = z_878 := (e_z_878.trans hw0).symm
  refine lv_icmp_ge (tgt := 31) hx hb dX10_unlikeMany_11 (by decide) (fun c_879 => ?_) (fun c_879 => ?_)
  ·
    have n_c_879 : (ln.toInt : Int) ≤ y_585.toInt := c_ge rfl rfl c_879
    refine lv_iconst (v := 0) hx hb dX10_unlikeMany_31 (by decide) ?_
    refine lv_istore_n (lv' := [(2, .int 0), (1, .int y_586), (0, .ref o0)]) hx hb dX10_unlikeMany_32 rfl hl (by decide) rfl (fun ls hl => ?_)
    refine lv_iconst (v := 0) hx hb dX10_unlikeMany_33 (by decide) ?_
    refine lv_istore_n (lv' := [(3, .int 0), (2, .int 0), (1, .int y_586), (0, .ref o0)]) hx hb dX10_unlikeMany_34 rfl hl (by decide) rfl (fun ls hl => ?_)
    refine loopP (σ := Int32 × Int32) (fun v => (16 - v.1.toInt).toNat) (fun v ls => ((0 : Int) ≤ v.1.toInt ∧ v.1.toInt ≤ 16) ∧ lv_has ls 4 [(3, .int v.1), (2, .int v.2), (1, .int y_586), (0, .ref o0)]) (fun v ls hI ih_35_965 => ?_) ((0 : Int32), (0 : Int32)) ⟨(show (0 : Int) ≤ (0 : Int32).toInt ∧ (0 : Int32).toInt ≤ 16 from (rg_w (by decide : (0 : Int) ≤ (0 : Int32).toInt ∧ (0 : Int32).toInt ≤ 0) (by decide) (by decide))), lv_sub hl [0, 1, 2, 3] rfl⟩
    obtain ⟨y_889, y_890⟩ := v
    obtain ⟨b_y_889, hl⟩ := hI
    have b_y_889 : (0 : Int) ≤ y_889.toInt ∧ y_889.toInt ≤ 16 := b_y_889
    have hl : lv_has ls 4 [(3, .int y_889), (2, .int y_890), (1, .int y_586), (0, .ref o0)] := hl
    refine lv_iload_n hx hb dX10_unlikeMany_35 rfl (lv_at hl 0 rfl) ?_
    refine lv_bipush (v := 16) hx hb dX10_unlikeMany_36 (by decide) ?_
    refine lv_icmp_ge (tgt := 55) hx hb dX10_unlikeMany_38 (by decide) (fun c_966 => ?_) (fun c_966 => ?_)
    ·
      have n_c_966 : (16 : Int) ≤ y_889.toInt := c_ge rfl (by decide) c_966
      have b_y_889 : (16 : Int) ≤ y_889.toInt ∧ y_889.toInt ≤ 16 := r_le2 (by decide : (16 : Int) ≤ (16 : Int32).toInt ∧ (16 : Int32).toInt ≤ 16) b_y_889 n_c_966 (by decide)
      refine lv_iload_n hx hb dX10_unlikeMany_55 rfl (lv_at hl 1 rfl) ?_
      exact W.iret (v := y_890) hx hb hr (fun t ht hW => ⟨y_890, rfl, trivial, ht⟩) t_nil dX10_unlikeMany_56
    ·
      have n_c_966 : (y_889.toInt : Int) < 16 := c_nge rfl (by decide) c_966
      have b_y_889 : (0 : Int) ≤ y_889.toInt ∧ y_889.toInt ≤ 15 := r_lt1 b_y_889 (by decide : (16 : Int) ≤ (16 : Int32).toInt ∧ (16 : Int32).toInt ≤ 16) n_c_966 (by decide)
      refine lv_iload_n hx hb dX10_unlikeMany_41 rfl (lv_at hl 1 rfl) ?_
      refine lv_iload_n hx hb dX10_unlikeMany_42 rfl (lv_at hl 2 rfl) ?_
      refine lv_iload_n hx hb dX10_unlikeMany_43 rfl (lv_at hl 0 rfl) ?_
      refine lv_ishr hx hb dX10_unlikeMany_44 ?_
      refine lv_topi (fun z_967 e_z_967 => ?_)
      refine lv_iconst (v := 1) hx hb dX10_unlikeMany_45 (by decide) ?_
      refine lv_iand hx hb dX10_unlikeMany_46 ?_
      refine lv_topi (fun z_968 e_z_968 => ?_)
      have b_z_968 : (0 : Int) ≤ z_968.toInt ∧ z_968.toInt ≤ 1 := ti_and (k := 1) e_z_968 (by decide) (by decide) (by decide)
      refine lv_iadd hx hb dX10_unlikeMany_47 ?_
      refine lv_topi (fun z_969 e_z_969 => ?_)
      refine lv_istore_n (lv' := [(2, .int z_969), (3, .int y_889), (1, .int y_586), (0, .ref o0)]) hx hb dX10_unlikeMany_48 rfl hl (by decide) rfl (fun ls hl => ?_)
      obtain ⟨z_970, e_z_970⟩ : ∃ y : Int32, y = y_889 + 1 := ⟨_, rfl⟩
      refine lv_iinc (v := z_970) (lv' := [(3, .int z_970), (2, .int z_969), (1, .int y_586), (0, .ref o0)]) hx hb dX10_unlikeMany_49 hl (k := 1) rfl (by rw [e_z_970]; rfl) (by decide) rfl (fun ls hl => ?_)
      obtain ⟨q_z_970, b_z_970⟩ := ti_add (lo := 1) (hi := 16) e_z_970 rfl (by decide : (1 : Int32).toInt = 1) b_y_889 (by decide : (1 : Int) ≤ (1 : Int32).toInt ∧ (1 : Int32).toInt ≤ 1) (by decide)
      refine lv_goto (tgt := 35) hx hb dX10_unlikeMany_52 (by decide) ?_
      exact ih_35_965 (z_970, z_969) _ ⟨(show (0 : Int) ≤ z_970.toInt ∧ z_970.toInt ≤ 16 from (rg_w b_z_970 (by decide) (by decide))), lv_sub hl [0, 1, 2, 3] rfl⟩ (show (16 - z_970.toInt).toNat < (16 - y_889.toInt).toNat by omega)
  ·
    have n_c_879 : (y_585.toInt : Int) < ln.toInt := c_nge rfl rfl c_879
    have b_y_585 : (0 : Int) ≤ y_585.toInt ∧ y_585.toInt ≤ 11 := r_lt1 b_y_585 b_ln n_c_879 (by decide)
    have b_ln : (1 : Int) ≤ ln.toInt ∧ ln.toInt ≤ 12 := r_lt2 b_y_585 b_ln n_c_879 (by decide)
    refine lv_iload_n hx hb dX10_unlikeMany_14 rfl (lv_at hl 1 rfl) ?_
    refine lv_iconst (v := 1) hx hb dX10_unlikeMany_15 (by decide) ?_
    refine lv_aload_n hx hb dX10_unlikeMany_16 rfl (lv_at hl 2 rfl) ?_
    refine va_get (D := (dC, dI)) (ci := 8) (v := .ref mfg) (C := RX10) (T := TX10) (N := 33) hx hb hts iX10_unlikeMany_X10 hown hK hP 0 rfl rfl 20 (by decide) (hts (.fieldLink RX10 40 "LuckyTicketModel" "figures" "[I") (List.mem_of_getElem? (i := 2) rfl)) (fun _ h9 => h9) rfl dX10_unlikeMany_17 ?_
    refine lv_iload_n hx hb dX10_unlikeMany_20 rfl (lv_at hl 0 rfl) ?_
    refine va_iald hx hb hK hP 2 1 rfl rfl (vp_in_b b_y_585 (by decide) (by decide)) dX10_unlikeMany_21 ?_
    refine lv_topi (fun z_971 e_z_971 => ?_)
    have b_z_971 : (0 : Int) ≤ z_971.toInt ∧ z_971.toInt ≤ 15 := rg_at ha_mfg (vp_in_b b_y_585 (by decide) (by decide)) e_z_971
    refine lv_ishl hx hb dX10_unlikeMany_22 ?_
    refine lv_topi (fun z_972 e_z_972 => ?_)
    refine lv_ior hx hb dX10_unlikeMany_23 ?_
    refine lv_topi (fun z_973 e_z_973 => ?_)
    refine lv_istore_n (lv' := [(1, .int z_973), (2, .int y_585), (0, .ref o0)]) hx hb dX10_unlikeMany_24 rfl hl (by decide) rfl (fun ls hl => ?_)
    obtain ⟨z_974, e_z_974⟩ : ∃ y : Int32, y = y_585 + 1 := ⟨_, rfl⟩
    refine lv_iinc (v := z_974) (lv' := [(2, .int z_974), (1, .int z_973), (0, .ref o0)]) hx hb dX10_unlikeMany_25 hl (k := 1) rfl (by rw [e_z_974]; rfl) (by decide) rfl (fun ls hl => ?_)
    obtain ⟨q_z_974, b_z_974⟩ := ti_add (lo := 1) (hi := 12) e_z_974 rfl (by decide : (1 : Int32).toInt = 1) b_y_585 (by decide : (1 : Int) ≤ (1 : Int32).toInt ∧ (1 : Int32).toInt ≤ 1) (by decide)
    refine lv_goto (tgt := 4) hx hb dX10_unlikeMany_28 (by decide) ?_
    exact ih_4_877 (z_974, z_973) _ ⟨(show (0 : Int) ≤ z_974.toInt ∧ z_974.toInt ≤ 12 from (rg_w b_z_974 (by decide) (by decide))), lv_sub hl [0, 1, 2] rfl⟩ (show (12 - z_974.toInt).toNat < (12 - y_585.toInt).toNat by omega)
theorem dX10_figure_0 : decode cX10_figure 0 = .ok (.aload_n 0, 1) := by decide +kernel
theorem dX10_figure_1 : decode cX10_figure 1 = .ok (.iload_n 1, 1) := by decide +kernel
theorem dX10_figure_2 : decode cX10_figure 2 = .ok (.i2l, 1) := by decide +kernel
theorem dX10_figure_3 : decode cX10_figure 3 = .ok (.invokevirtual 93, 3) := by decide +kernel
theorem dX10_figure_6 : decode cX10_figure 6 = .ok (.ifCond .eq 11, 3) := by decide +kernel
theorem dX10_figure_9 : decode cX10_figure 9 = .ok (.aload_n 0, 1) := by decide +kernel
theorem dX10_figure_10 : decode cX10_figure 10 = .ok (.iload_n 2, 1) := by decide +kernel
theorem dX10_figure_11 : decode cX10_figure 11 = .ok (.invokevirtual 308, 3) := by decide +kernel
theorem dX10_figure_14 : decode cX10_figure 14 = .ok (.ifCond .ne 6, 3) := by decide +kernel
theorem dX10_figure_17 : decode cX10_figure 17 = .ok (.bipush (-2), 2) := by decide +kernel
theorem dX10_figure_19 : decode cX10_figure 19 = .ok (.ireturn, 1) := by decide +kernel
theorem dX10_figure_20 : decode cX10_figure 20 = .ok (.aload_n 0, 1) := by decide +kernel
theorem dX10_figure_21 : decode cX10_figure 21 = .ok (.iload_n 1, 1) := by decide +kernel
theorem dX10_figure_22 : decode cX10_figure 22 = .ok (.invokevirtual 302, 3) := by decide +kernel
theorem dX10_figure_25 : decode cX10_figure 25 = .ok (.aload_n 0, 1) := by decide +kernel
theorem dX10_figure_26 : decode cX10_figure 26 = .ok (.getfield 40, 3) := by decide +kernel
theorem dX10_figure_29 : decode cX10_figure 29 = .ok (.iload_n 2, 1) := by decide +kernel
theorem dX10_figure_30 : decode cX10_figure 30 = .ok (.iaload, 1) := by decide +kernel
theorem dX10_figure_31 : decode cX10_figure 31 = .ok (.ireturn, 1) := by decide +kernel
theorem hd_yX10_figure : yX10_figure.cls = RX10 ∧ yX10_figure.cls ≠ "java/lang/invoke/MethodHandle" ∧ yX10_figure.cls ≠ "java/lang/invoke/VarHandle" ∧ (parseMethodDescriptor yX10_figure.desc).map (fun d => d.parameters.length) = some 2 := by decide +kernel
def uX10_figure : List Cond := List.cons (.code yX10_figure cX10_figure 3 (some .int)) (HAppend.hAppend ([.methodLink RX10 93 yX10_isTicket, .instanceMethod yX10_isTicket, .selects RX10 yX10_isTicket yX10_isTicket, .initialized RX10, .methodLink RX10 308 yX10_isPlace, .instanceMethod yX10_isPlace, .selects RX10 yX10_isPlace yX10_isPlace, .methodLink RX10 302 yX10_fillFigures, .instanceMethod yX10_fillFigures, .selects RX10 yX10_fillFigures yX10_fillFigures, .fieldLink RX10 40 "LuckyTicketModel" "figures" "[I"] : List Cond) (HAppend.hAppend uX10_isTicket (HAppend.hAppend uX10_isPlace (HAppend.hAppend uX10_fillFigures wsX100))))
theorem iX10_figure_X10 : ∀ w ∈ wsX100, w ∈ uX10_figure := fun _ h => (List.mem_cons_of_mem _ (List.mem_append_right _ (List.mem_append_right _ (List.mem_append_right _ (List.mem_append_right _ h)))))
theorem guX10_figure : GU uX10_figure := gu_cons (gu_app (by decide +kernel) (gu_ap guX10_isTicket (gu_ap guX10_isPlace (gu_ap guX10_fillFigures gws_X10))))
theorem gX10_figure__X10_isTicket_V93 : GoodIn uX10_figure (wsV RX10 93 RX10 yX10_isTicket uX10_isTicket) := gin_V (List.mem_of_getElem? (i := 1) rfl) (List.mem_of_getElem? (i := 2) rfl) (List.mem_of_getElem? (i := 3) rfl) (List.mem_of_getElem? (i := 4) rfl) (fun _ h => (List.mem_cons_of_mem _ (List.mem_append_right _ (List.mem_append_left _ h)))) guX10_isTicket
theorem gX10_figure__X10_isPlace_V308 : GoodIn uX10_figure (wsV RX10 308 RX10 yX10_isPlace uX10_isPlace) := gin_V (List.mem_of_getElem? (i := 5) rfl) (List.mem_of_getElem? (i := 6) rfl) (List.mem_of_getElem? (i := 7) rfl) (List.mem_of_getElem? (i := 4) rfl) (fun _ h => (List.mem_cons_of_mem _ (List.mem_append_right _ (List.mem_append_right _ (List.mem_append_left _ h))))) guX10_isPlace
theorem gX10_figure__X10_fillFigures_V302 : GoodIn uX10_figure (wsV RX10 302 RX10 yX10_fillFigures uX10_fillFigures) := gin_V (List.mem_of_getElem? (i := 8) rfl) (List.mem_of_getElem? (i := 9) rfl) (List.mem_of_getElem? (i := 10) rfl) (List.mem_of_getElem? (i := 4) rfl) (fun _ h => (List.mem_cons_of_mem _ (List.mem_append_right _ (List.mem_append_right _ (List.mem_append_right _ (List.mem_append_left _ h)))))) guX10_fillFigures
set_option maxHeartbeats 4000000 in
set_option maxRecDepth 100000 in
theorem kX10_figure (l : Launch) (dC : Nat → ClassId) (dI : Nat → Nat → Nat) (o0 : Nat) (x_th : Int32) (mwo : Nat) (mim : Nat) (mhi : Nat) (mlu : Nat) (mtp : Nat) (x_td : Int32) (mfv : Nat) (x_sz : Int32) (x_at : Int32) (x_fr : Int32) (x_to : Int32) (x_va : Int32) (x_fk : Int32) (x_fp : Int32) (mfr : Nat) (mwt : Nat) (x_wt : Int32) (x_op : Int32) (x_jo : Int32) (mfg : Nat) (mpl : Nat) (x_dr : Int64) (mtm : Nat) (mfa : Nat) (mqu : Nat) (mmo : Nat) (mwy : Nat) (mwn : Nat) (mma : Nat) (mwi : Nat) (mnu : Nat) (mmv : Nat) (c_wo : ClassId) (c_fg : ClassId) (w_wo : Nat → Int32) (w_fg : Nat → Int32) (ln : Int32) (bs : Int32) (tk : Int32) (lw : Int32) (li : Int32) (a1 : Int32) (a2 : Int32) (sz : Nat) (b_ln : (0 : Int) ≤ ln.toInt ∧ ln.toInt ≤ 12) (b_bs : (0 : Int) ≤ bs.toInt ∧ bs.toInt ≤ 16) (b_tk : (0 : Int) ≤ tk.toInt ∧ tk.toInt ≤ 20000) (b_lw : (0 : Int) ≤ lw.toInt ∧ lw.toInt ≤ 9) (ha_mfg : rg w_fg 12 0 15) (hw0 : w_wo 0 = ln) (hw1 : w_wo 1 = bs) (hw2 : w_wo 2 = tk) (hw3 : w_wo 3 = lw) (hw4 : w_wo 4 = li) (hwz : (ln.toInt = 0 ∧ bs.toInt = 0 ∧ tk.toInt = 0 ∧ lw.toInt = 0) ∨ (1 ≤ ln.toInt ∧ 2 ≤ bs.toInt ∧ 1 ≤ tk.toInt)) : Met l yX10_figure uX10_figure ({ frames := 2, cells := 0, slots := 0, locals := 47 }) (va_Pc [.ref o0, .int a1, .int a2] (hw (dC, dI) vwCl [(o0, .inr (8, [.int x_th, .ref mwo, .ref mim, .ref mhi, .ref mlu, .ref mtp, .int x_td, .ref mfv, .int x_sz, .int x_at, .int x_fr, .int x_to, .int x_va, .int x_fk, .int x_fp, .ref mfr, .ref mwt, .int x_wt, .int x_op, .int x_jo, .ref mfg, .ref mpl, .long x_dr, .ref mtm, .ref mfa, .ref mqu, .ref mmo, .ref mwy, .ref mwn, .ref mma, .ref mwi, .ref mnu, .ref mmv])), (mwo, .inl (c_wo, 1875, .inl w_wo)), (mfg, .inl (c_fg, 12, .inl w_fg))] [(c_wo, .int), (c_fg, .int)] sz)) (va_Qi (fun (r : Int32) (_ : Unit) => ((-2 : Int) ≤ r.toInt ∧ r.toInt ≤ 15)) (fun (_ : Unit) t => ∃ (o0_ : Nat → Int32), (rg o0_ 12 0 15) ∧ va_P (dC, dI) vwCl [(o0, .inr (8, [.int x_th, .ref mwo, .ref mim, .ref mhi, .ref mlu, .ref mtp, .int x_td, .ref mfv, .int x_sz, .int x_at, .int x_fr, .int x_to, .int x_va, .int x_fk, .int x_fp, .ref mfr, .ref mwt, .int x_wt, .int x_op, .int x_jo, .ref mfg, .ref mpl, .long x_dr, .ref mtm, .ref mfa, .ref mqu, .ref mmo, .ref mwy, .ref mwn, .ref mma, .ref mwi, .ref mnu, .ref mmv])), (mwo, .inl (c_wo, 1875, .inl w_wo)), (mfg, .inl (c_fg, 12, .inl o0_))] t.heap ∧ va_K (dC, dI) vwCl [(c_wo, .int), (c_fg, .int)] t ∧ va_D (va_A [(o0, .inr (8, [.int x_th, .ref mwo, .ref mim, .ref mhi, .ref mlu, .ref mtp, .int x_td, .ref mfv, .int x_sz, .int x_at, .int x_fr, .int x_to, .int x_va, .int x_fk, .int x_fp, .ref mfr, .ref mwt, .int x_wt, .int x_op, .int x_jo, .ref mfg, .ref mpl, .long x_dr, .ref mtm, .ref mfa, .ref mqu, .ref mmo, .ref mwy, .ref mwn, .ref mma, .ref mwi, .ref mnu, .ref mmv])), (mwo, .inl (c_wo, 1875, .inl w_wo)), (mfg, .inl (c_fg, 12, .inl w_fg))] sz) [(o0, .inr (8, [.int x_th, .ref mwo, .ref mim, .ref mhi, .ref mlu, .ref mtp, .int x_td, .ref mfv, .int x_sz, .int x_at, .int x_fr, .int x_to, .int x_va, .int x_fk, .int x_fp, .ref mfr, .ref mwt, .int x_wt, .int x_op, .int x_jo, .ref mfg, .ref mpl, .long x_dr, .ref mtm, .ref mfa, .ref mqu, .ref mmo, .ref mwy, .ref mwn, .ref mma, .ref mwi, .ref mnu, .ref mmv])), (mwo, .inl (c_wo, 1875, .inl w_wo)), (mfg, .inl (c_fg, 12, .inl o0_))]) (va_A [(o0, .inr (8, [.int x_th, .ref mwo, .ref mim, .ref mhi, .ref mlu, .ref mtp, .int x_td, .ref mfv, .int x_sz, .int x_at, .int x_fr, .int x_to, .int x_va, .int x_fk, .int x_fp, .ref mfr, .ref mwt, .int x_wt, .int x_op, .int x_jo, .ref mfg, .ref mpl, .long x_dr, .ref mtm, .ref mfa, .ref mqu, .ref mmo, .ref mwy, .ref mwn, .ref mma, .ref mwi, .ref mnu, .ref mmv])), (mwo, .inl (c_wo, 1875, .inl w_wo)), (mfg, .inl (c_fg, 12, .inl w_fg))] sz)) 0 0 (va_A [(o0, .inr (8, [.int x_th, .ref mwo, .ref mim, .ref mhi, .ref mlu, .ref mtp, .int x_td, .ref mfv, .int x_sz, .int x_at, .int x_fr, .int x_to, .int x_va, .int x_fk, .int x_fp, .ref mfr, .ref mwt, .int x_wt, .int x_op, .int x_jo, .ref mfg, .ref mpl, .long x_dr, .ref mtm, .ref mfa, .ref mqu, .ref mmo, .ref mwy, .ref mwn, .ref mma, .ref mwi, .ref mnu, .ref mmv])), (mwo, .inl (c_wo, 1875, .inl w_wo)), (mfg, .inl (c_fg, 12, .inl w_fg))] sz) := by
  refine Met.ofW (cc := cX10_figure) (maxL := 3) (ret := (some .int)) pn_X10 rfl ?_
  intro p e s m args below meth c s₁ B hml hv
  obtain ⟨rfl, hsz, hP, hK, hD0, hN⟩ := hv
  have hx := B.exec
  have hb := B.bytes
  have hr := B.returns
  have hts := atoms_spec (ws := uX10_figure) B.pre
  have hown : s.vm.findClass RX10 = some m.cls := hown_of B.named rfl
  have hlocks := B.notSynchronized
  subst hsz
  have hD := hD0.self (sz := s.heap.size)
  generalize hAe : va_A [(o0, .inr (8, [.int x_th, .ref mwo, .ref mim, .ref mhi, .ref mlu, .ref mtp, .int x_td, .ref mfv, .int x_sz, .int x_at, .int x_fr, .int x_to, .int x_va, .int x_fk, .int x_fp, .ref mfr, .ref mwt, .int x_wt, .int x_op, .int x_jo, .ref mfg, .ref mpl, .long x_dr, .ref mtm, .ref mfa, .ref mqu, .ref mmo, .ref mwy, .ref mwn, .ref mma, .ref mwi, .ref mnu, .ref mmv])), (mwo, .inl (c_wo, 1875, .inl w_wo)), (mfg, .inl (c_fg, 12, .inl w_fg))] s.heap.size = A at hD ⊢
  have hA : ∀ q : Nat, s.heap.size ≤ q → A q := fun q h => by rw [← hAe]; exact Or.inr h
  have hS : va_S A s.heap s.heap [] := va_S.rf
  have hP : va_P (dC, dI) vwCl [(o0, .inr (8, [.int x_th, .ref mwo, .ref mim, .ref mhi, .ref mlu, .ref mtp, .int x_td, .ref mfv, .int x_sz, .int x_at, .int x_fr, .int x_to, .int x_va, .int x_fk, .int x_fp, .ref mfr, .ref mwt, .int x_wt, .int x_op, .int x_jo, .ref mfg, .ref mpl, .long x_dr, .ref mtm, .ref mfa, .ref mqu, .ref mmo, .ref mwy, .ref mwn, .ref mma, .ref mwi, .ref mnu, .ref mmv])), (mwo, .inl (c_wo, 1875, .inl w_wo)), (mfg, .inl (c_fg, 12, .inl w_fg))] s.heap := hP
  have hl := lv_entry ([.ref o0, .int a1, .int a2]) (n := 3) (Nat.le_of_ble_eq_true rfl)
  rw [lg_entry_eq]
  generalize (lg_sl ([.ref o0, .int a1, .int a2]) ++ List.replicate (3 - (lg_sl ([.ref o0, .int a1, .int a2])).length) Slot.unset).toArray = ls at hl ⊢
  have hl : lv_has ls 3 [(0, .ref o0), (1, .int a1), (2, .int a2)] := hl
  refine lv_aload_n hx hb dX10_figure_0 rfl (lv_at hl 0 rfl) ?_
  refine lv_iload_n hx hb dX10_figure_1 rfl (lv_at hl 1 rfl) ?_
  obtain ⟨z_13, e_z_13⟩ : ∃ y : Int64, y = a1.toInt64 := ⟨_, rfl⟩
  refine lv_i2l (v := z_13) hx hb dX10_figure_2 e_z_13.symm ?_
  obtain ⟨q_z_13, b_z_13⟩ := ti_i2l e_z_13 (ti_rng a1)
  refine vp_callSi (W.runV (As := [.long z_13]) (rest := []) ⟨hx, hb, hml, hown, hts⟩ (kX10_isTicket l dC dI o0 x_th mwo mim mhi mlu mtp x_td mfv x_sz x_at x_fr x_to x_va x_fk x_fp mfr mwt x_wt x_op x_jo mfg mpl x_dr mtm mfa mqu mmo mwy mwn mma mwi mnu mmv c_wo w_wo ln bs tk lw li z_13 b_ln b_bs b_tk b_lw (hw0) (hw1) (hw2) (hw3) (hw4) (hwz)) (cwV 1 hts gX10_figure__X10_isTicket_V93 rfl rfl rfl hd_yX10_isTicket ⟨lel 2 2 rfl, lel 47 47 rfl⟩) ⟨pw_fb, rcv_X10 hK hP (q0 := 0) rfl, (pw_use hP hK hN [0, 1] rfl [0] rfl)⟩ rfl rfl hl.1 rfl (lv_room (Nat.le_of_ble_eq_true rfl)) dX10_figure_3 ⟨lel 0 0 rfl, lel 0 0 rfl⟩) (fun r_14 h_r_14 => ?_)
  obtain ⟨b_r_14, nz_r_14⟩ := h_r_14
  have b_r_14 : (0 : Int) ≤ r_14.toInt ∧ r_14.toInt ≤ 1 := b_r_14
  refine lv_if_eq (tgt := 17) hx hb dX10_figure_6 (by decide) (fun c_15 => ?_) (fun c_15 => ?_)
  ·
    have n_c_15 : (r_14.toInt : Int) = 0 := c_eq rfl (by decide) c_15
    have b_r_14 : (0 : Int) ≤ r_14.toInt ∧ r_14.toInt ≤ 0 := r_eq1 b_r_14 (by decide : (0 : Int) ≤ (0 : Int32).toInt ∧ (0 : Int32).toInt ≤ 0) n_c_15 (by decide)
    refine lv_bipush (v := (-2)) hx hb dX10_figure_17 (by decide) ?_
    have hP9 := hP.sub (ws' := [(o0, .inr (8, [.int x_th, .ref mwo, .ref mim, .ref mhi, .ref mlu, .ref mtp, .int x_td, .ref mfv, .int x_sz, .int x_at, .int x_fr, .int x_to, .int x_va, .int x_fk, .int x_fp, .ref mfr, .ref mwt, .int x_wt, .int x_op, .int x_jo, .ref mfg, .ref mpl, .long x_dr, .ref mtm, .ref mfa, .ref mqu, .ref mmo, .ref mwy, .ref mwn, .ref mma, .ref mwi, .ref mnu, .ref mmv])), (mwo, .inl (c_wo, 1875, .inl w_wo)), (mfg, .inl (c_fg, 12, .inl w_fg))]) [0, 1, 2] rfl
    have hD9 := hD.sub (ws' := [(o0, .inr (8, [.int x_th, .ref mwo, .ref mim, .ref mhi, .ref mlu, .ref mtp, .int x_td, .ref mfv, .int x_sz, .int x_at, .int x_fr, .int x_to, .int x_va, .int x_fk, .int x_fp, .ref mfr, .ref mwt, .int x_wt, .int x_op, .int x_jo, .ref mfg, .ref mpl, .long x_dr, .ref mtm, .ref mfa, .ref mqu, .ref mmo, .ref mwy, .ref mwn, .ref mma, .ref mwi, .ref mnu, .ref mmv])), (mwo, .inl (c_wo, 1875, .inl w_wo)), (mfg, .inl (c_fg, 12, .inl w_fg))]) [0, 1, 2] (by decide) rfl
    have hK9 := hK.sub (tys' := [(c_wo, .int), (c_fg, .int)]) [0, 1] rfl
    exact W.iret (v := (-2)) hx hb hr (fun t ht hW => ⟨⟨(-2), (), rfl, (rg_w (by decide : (-2 : Int) ≤ ((-2) : Int32).toInt ∧ ((-2) : Int32).toInt ≤ -2) (by decide) (by decide)), w_fg, ha_mfg, by rw [ht]; exact hP9, va_K.moved hW.alike hK9, hD9⟩, hS.F ht⟩) hS.2.2 dX10_figure_19
  ·
    have n_c_15 : (r_14.toInt : Int) ≠ 0 := c_ne rfl (by decide) c_15
    have b_r_14 : (1 : Int) ≤ r_14.toInt ∧ r_14.toInt ≤ 1 := r_ne1 b_r_14 (by decide : (0 : Int) ≤ (0 : Int32).toInt ∧ (0 : Int32).toInt ≤ 0) n_c_15 (by decide)
    obtain ⟨b_z_13, g_16⟩ := nz_r_14 c_15
    have b_a1 : (0 : Int) ≤ a1.toInt ∧ a1.toInt ≤ 19999 := by
      have q0 := b_z_13; have q1 := q_z_13; have q2 := (ti_rng a1); omega
    refine lv_aload_n hx hb dX10_figure_9 rfl (lv_at hl 0 rfl) ?_
    refine lv_iload_n hx hb dX10_figure_10 rfl (lv_at hl 2 rfl) ?_
    refine vp_callSi (W.runV (As := [.int a2]) (rest := []) ⟨hx, hb, hml, hown, hts⟩ (kX10_isPlace l dC dI o0 x_th mwo mim mhi mlu mtp x_td mfv x_sz x_at x_fr x_to x_va x_fk x_fp mfr mwt x_wt x_op x_jo mfg mpl x_dr mtm mfa mqu mmo mwy mwn mma mwi mnu mmv c_wo w_wo ln bs tk lw li a2 b_ln b_bs b_tk b_lw (hw0) (hw1) (hw2) (hw3) (hw4) (hwz)) (cwV 1 hts gX10_figure__X10_isPlace_V308 rfl rfl rfl hd_yX10_isPlace ⟨lel 2 2 rfl, lel 46 47 rfl⟩) ⟨pw_fb, rcv_X10 hK hP (q0 := 0) rfl, (pw_use hP hK hN [0, 1] rfl [0] rfl)⟩ rfl rfl hl.1 rfl (lv_room (Nat.le_of_ble_eq_true rfl)) dX10_figure_11 ⟨lel 0 0 rfl, lel 0 0 rfl⟩) (fun r_17 h_r_17 => ?_)
    obtain ⟨b_r_17, nz_r_17⟩ := h_r_17
    have b_r_17 : (0 : Int) ≤ r_17.toInt ∧ r_17.toInt ≤ 1 := b_r_17
    refine lv_if_ne (tgt := 20) hx hb dX10_figure_14 (by decide) (fun c_18 => ?_) (fun c_18 => ?_)
    ·
      have n_c_18 : (r_17.toInt : Int) ≠ 0 := c_ne rfl (by decide) c_18
      have b_r_17 : (1 : Int) ≤ r_17.toInt ∧ r_17.toInt ≤ 1 := r_ne1 b_r_17 (by decide : (0 : Int) ≤ (0 : Int32).toInt ∧ (0 : Int32).toInt ≤ 0) n_c_18 (by decide)
      obtain ⟨b_a2, g_19⟩ := nz_r_17 c_18
      refine lv_aload_n hx hb dX10_figure_20 rfl (lv_at hl 0 rfl) ?_
      refine lv_iload_n hx hb dX10_figure_21 rfl (lv_at hl 1 rfl) ?_
      have hFc := va_free (wc := [(o0, .inr (8, [.int x_th, .ref mwo, .ref mim, .ref mhi, .ref mlu, .ref mtp, .int x_td, .ref mfv, .int x_sz, .int x_at, .int x_fr, .int x_to, .int x_va, .int x_fk, .int x_fp, .ref mfr, .ref mwt, .int x_wt, .int x_op, .int x_jo, .ref mfg, .ref mpl, .long x_dr, .ref mtm, .ref mfa, .ref mqu, .ref mmo, .ref mwy, .ref mwn, .ref mma, .ref mwi, .ref mnu, .ref mmv])), (mwo, .inl (c_wo, 1875, .inl w_wo)), (mfg, .inl (c_fg, 12, .inl w_fg))]) hD hS hA [0, 1, 2] rfl
      refine va_callv (va_runV (As := [.int a1]) (rest := []) ⟨hx, hb, hml, hown, hts⟩ (kX10_fillFigures l dC dI o0 x_th mwo mim mhi mlu mtp x_td mfv x_sz x_at x_fr x_to x_va x_fk x_fp mfr mwt x_wt x_op x_jo mfg mpl x_dr mtm mfa mqu mmo mwy mwn mma mwi mnu mmv c_wo c_fg w_wo w_fg ln bs tk lw li a1 (s.heap.size) b_ln b_bs b_tk b_lw b_a1 ha_mfg (hw0) (hw1) (hw2) (hw3) (hw4) (hwz)) (cwV 1 hts gX10_figure__X10_fillFigures_V302 rfl rfl rfl hd_yX10_fillFigures ⟨lel 1 2 rfl, lel 23 47 rfl⟩) ⟨hw_fb, rcv_X10 hK hP (q0 := 0) rfl, (hw_use hP hD hK hN [0, 1, 2] rfl (by decide) rfl [0, 1] rfl)⟩ rfl rfl hl.1 rfl (lv_room (Nat.le_of_ble_eq_true rfl)) dX10_figure_22 ⟨lel 0 0 rfl, lel 0 0 rfl⟩) hS (fun q _ h => hFc q h) hFc (fun u_21 t H1 locs ht hvm hw_r_20 hB hz1 hk1 hS => ?_)
      obtain ⟨o0_22, ha_23, hP1, hK1, hD1⟩ := hB
      rw [ht] at hP1
      have hK1 := va_K.moved hvm.symm hK1
      obtain ⟨hP, hD⟩ := va_join (wr := []) (w1 := [(o0, .inr (8, [.int x_th, .ref mwo, .ref mim, .ref mhi, .ref mlu, .ref mtp, .int x_td, .ref mfv, .int x_sz, .int x_at, .int x_fr, .int x_to, .int x_va, .int x_fk, .int x_fp, .ref mfr, .ref mwt, .int x_wt, .int x_op, .int x_jo, .ref mfg, .ref mpl, .long x_dr, .ref mtm, .ref mfa, .ref mqu, .ref mmo, .ref mwy, .ref mwn, .ref mma, .ref mwi, .ref mnu, .ref mmv])), (mwo, .inl (c_wo, 1875, .inl w_wo)), (mfg, .inl (c_fg, 12, .inl o0_22))]) hP hD [0, 1, 2] [] rfl rfl (by decide) (by decide) hk1 hFc hP1 hD1
      have hK := (hK.sub (tys' := []) [] rfl).app hK1
      generalize H1 = H at hP hS ⊢
      have hP : va_P (dC, dI) vwCl [(o0, .inr (8, [.int x_th, .ref mwo, .ref mim, .ref mhi, .ref mlu, .ref mtp, .int x_td, .ref mfv, .int x_sz, .int x_at, .int x_fr, .int x_to, .int x_va, .int x_fk, .int x_fp, .ref mfr, .ref mwt, .int x_wt, .int x_op, .int x_jo, .ref mfg, .ref mpl, .long x_dr, .ref mtm, .ref mfa, .ref mqu, .ref mmo, .ref mwy, .ref mwn, .ref mma, .ref mwi, .ref mnu, .ref mmv])), (mwo, .inl (c_wo, 1875, .inl w_wo)), (mfg, .inl (c_fg, 12, .inl o0_22))] H := hP
      have hD : va_D A [(o0, .inr (8, [.int x_th, .ref mwo, .ref mim, .ref mhi, .ref mlu, .ref mtp, .int x_td, .ref mfv, .int x_sz, .int x_at, .int x_fr, .int x_to, .int x_va, .int x_fk, .int x_fp, .ref mfr, .ref mwt, .int x_wt, .int x_op, .int x_jo, .ref mfg, .ref mpl, .long x_dr, .ref mtm, .ref mfa, .ref mqu, .ref mmo, .ref mwy, .ref mwn, .ref mma, .ref mwi, .ref mnu, .ref mmv])), (mwo, .inl (c_wo, 1875, .inl w_wo)), (mfg, .inl (c_fg, 12, .inl o0_22))] := hD
      have hK : va_K (dC, dI) vwCl [(c_wo, .int), (c_fg, .int)] s := hK
      refine lv_aload_n hx hb dX10_figure_25 rfl (lv_at hl 0 rfl) ?_
      refine va_get (D := (dC, dI)) (ci := 8) (v := .ref mfg) (C := RX10) (T := TX10) (N := 33) hx hb hts iX10_figure_X10 hown hK hP 0 rfl rfl 20 (by decide) (hts (.fieldLink RX10 40 "LuckyTicketModel" "figures" "[I") (List.mem_of_getElem? (i := 11) rfl)) (fun _ h9 => h9) rfl dX10_figure_26 ?_
      refine lv_iload_n hx hb dX10_figure_29 rfl (lv_at hl 2 rfl) ?_
      refine va_iald hx hb hK hP 2 1 rfl rfl (vp_in_b b_a2 (by decide) (by decide)) dX10_figure_30 ?_
      refine lv_topi (fun z_24 e_z_24 => ?_)
      have b_z_24 : (0 : Int) ≤ z_24.toInt ∧ z_24.toInt ≤ 15 := rg_at ha_23 (vp_in_b b_a2 (by decide) (by decide)) e_z_24
      have hP9 := hP.sub (ws' := [(o0, .inr (8, [.int x_th, .ref mwo, .ref mim, .ref mhi, .ref mlu, .ref mtp, .int x_td, .ref mfv, .int x_sz, .int x_at, .int x_fr, .int x_to, .int x_va, .int x_fk, .int x_fp, .ref mfr, .ref mwt, .int x_wt, .int x_op, .int x_jo, .ref mfg, .ref mpl, .long x_dr, .ref mtm, .ref mfa, .ref mqu, .ref mmo, .ref mwy, .ref mwn, .ref mma, .ref mwi, .ref mnu, .ref mmv])), (mwo, .inl (c_wo, 1875, .inl w_wo)), (mfg, .inl (c_fg, 12, .inl o0_22))]) [0, 1, 2] rfl
      have hD9 := hD.sub (ws' := [(o0, .inr (8, [.int x_th, .ref mwo, .ref mim, .ref mhi, .ref mlu, .ref mtp, .int x_td, .ref mfv, .int x_sz, .int x_at, .int x_fr, .int x_to, .int x_va, .int x_fk, .int x_fp, .ref mfr, .ref mwt, .int x_wt, .int x_op, .int x_jo, .ref mfg, .ref mpl, .long x_dr, .ref mtm, .ref mfa, .ref mqu, .ref mmo, .ref mwy, .ref mwn, .ref mma, .ref mwi, .ref mnu, .ref mmv])), (mwo, .inl (c_wo, 1875, .inl w_wo)), (mfg, .inl (c_fg, 12, .inl o0_22))]) [0, 1, 2] (by decide) rfl
      have hK9 := hK.sub (tys' := [(c_wo, .int), (c_fg, .int)]) [0, 1] rfl
      exact W.iret (v := z_24) hx hb hr (fun t ht hW => ⟨⟨z_24, (), rfl, (rg_w b_z_24 (by decide) (by decide)), o0_22, ha_23, by rw [ht]; exact hP9, va_K.moved hW.alike hK9, hD9⟩, hS.F ht⟩) hS.2.2 dX10_figure_31
    ·
      have n_c_18 : (r_17.toInt : Int) = 0 := c_eq rfl (by decide) c_18
      have b_r_17 : (0 : Int) ≤ r_17.toInt ∧ r_17.toInt ≤ 0 := r_eq1 b_r_17 (by decide : (0 : Int) ≤ (0 : Int32).toInt ∧ (0 : Int32).toInt ≤ 0) n_c_18 (by decide)
      refine lv_bipush (v := (-2)) hx hb dX10_figure_17 (by decide) ?_
      have hP9 := hP.sub (ws' := [(o0, .inr (8, [.int x_th, .ref mwo, .ref mim, .ref mhi, .ref mlu, .ref mtp, .int x_td, .ref mfv, .int x_sz, .int x_at, .int x_fr, .int x_to, .int x_va, .int x_fk, .int x_fp, .ref mfr, .ref mwt, .int x_wt, .int x_op, .int x_jo, .ref mfg, .ref mpl, .long x_dr, .ref mtm, .ref mfa, .ref mqu, .ref mmo, .ref mwy, .ref mwn, .ref mma, .ref mwi, .ref mnu, .ref mmv])), (mwo, .inl (c_wo, 1875, .inl w_wo)), (mfg, .inl (c_fg, 12, .inl w_fg))]) [0, 1, 2] rfl
      have hD9 := hD.sub (ws' := [(o0, .inr (8, [.int x_th, .ref mwo, .ref mim, .ref mhi, .ref mlu, .ref mtp, .int x_td, .ref mfv, .int x_sz, .int x_at, .int x_fr, .int x_to, .int x_va, .int x_fk, .int x_fp, .ref mfr, .ref mwt, .int x_wt, .int x_op, .int x_jo, .ref mfg, .ref mpl, .long x_dr, .ref mtm, .ref mfa, .ref mqu, .ref mmo, .ref mwy, .ref mwn, .ref mma, .ref mwi, .ref mnu, .ref mmv])), (mwo, .inl (c_wo, 1875, .inl w_wo)), (mfg, .inl (c_fg, 12, .inl w_fg))]) [0, 1, 2] (by decide) rfl
      have hK9 := hK.sub (tys' := [(c_wo, .int), (c_fg, .int)]) [0, 1] rfl
      exact W.iret (v := (-2)) hx hb hr (fun t ht hW => ⟨⟨(-2), (), rfl, (rg_w (by decide : (-2 : Int) ≤ ((-2) : Int32).toInt ∧ ((-2) : Int32).toInt ≤ -2) (by decide) (by decide)), w_fg, ha_mfg, by rw [ht]; exact hP9, va_K.moved hW.alike hK9, hD9⟩, hS.F ht⟩) hS.2.2 dX10_figure_19
theorem dX10_sums_0 : decode cX10_sums 0 = .ok (.aload_n 0, 1) := by decide +kernel
theorem dX10_sums_1 : decode cX10_sums 1 = .ok (.iload_n 1, 1) := by decide +kernel
theorem dX10_sums_2 : decode cX10_sums 2 = .ok (.i2l, 1) := by decide +kernel
theorem dX10_sums_3 : decode cX10_sums 3 = .ok (.invokevirtual 93, 3) := by decide +kernel
theorem dX10_sums_6 : decode cX10_sums 6 = .ok (.ifCond .eq 15, 3) := by decide +kernel
theorem dX10_sums_9 : decode cX10_sums 9 = .ok (.iload_n 2, 1) := by decide +kernel
theorem dX10_sums_10 : decode cX10_sums 10 = .ok (.i2l, 1) := by decide +kernel
theorem dX10_sums_11 : decode cX10_sums 11 = .ok (.lconst 0, 1) := by decide +kernel
theorem dX10_sums_12 : decode cX10_sums 12 = .ok (.ldc2_w 311, 3) := by decide +kernel
theorem dX10_sums_15 : decode cX10_sums 15 = .ok (.invokestatic 82, 3) := by decide +kernel
theorem dX10_sums_18 : decode cX10_sums 18 = .ok (.ifCond .ne 6, 3) := by decide +kernel
theorem dX10_sums_21 : decode cX10_sums 21 = .ok (.bipush (-2), 2) := by decide +kernel
theorem dX10_sums_23 : decode cX10_sums 23 = .ok (.ireturn, 1) := by decide +kernel
theorem dX10_sums_24 : decode cX10_sums 24 = .ok (.aload_n 0, 1) := by decide +kernel
theorem dX10_sums_25 : decode cX10_sums 25 = .ok (.iload_n 1, 1) := by decide +kernel
theorem dX10_sums_26 : decode cX10_sums 26 = .ok (.invokevirtual 302, 3) := by decide +kernel
theorem dX10_sums_29 : decode cX10_sums 29 = .ok (.iload_n 2, 1) := by decide +kernel
theorem dX10_sums_30 : decode cX10_sums 30 = .ok (.iconst 5, 1) := by decide +kernel
theorem dX10_sums_31 : decode cX10_sums 31 = .ok (.if_icmp .ne 8, 3) := by decide +kernel
theorem dX10_sums_34 : decode cX10_sums 34 = .ok (.aload_n 0, 1) := by decide +kernel
theorem dX10_sums_35 : decode cX10_sums 35 = .ok (.invokevirtual 292, 3) := by decide +kernel
theorem dX10_sums_38 : decode cX10_sums 38 = .ok (.ireturn, 1) := by decide +kernel
theorem dX10_sums_39 : decode cX10_sums 39 = .ok (.aload_n 0, 1) := by decide +kernel
theorem dX10_sums_40 : decode cX10_sums 40 = .ok (.iload_n 2, 1) := by decide +kernel
theorem dX10_sums_41 : decode cX10_sums 41 = .ok (.ifCond .ne 10, 3) := by decide +kernel
theorem dX10_sums_44 : decode cX10_sums 44 = .ok (.aload_n 0, 1) := by decide +kernel
theorem dX10_sums_45 : decode cX10_sums 45 = .ok (.invokevirtual 277, 3) := by decide +kernel
theorem dX10_sums_48 : decode cX10_sums 48 = .ok (.goto 50, 3) := by decide +kernel
theorem dX10_sums_51 : decode cX10_sums 51 = .ok (.iload_n 2, 1) := by decide +kernel
theorem dX10_sums_52 : decode cX10_sums 52 = .ok (.iconst 1, 1) := by decide +kernel
theorem dX10_sums_53 : decode cX10_sums 53 = .ok (.if_icmp .ne 10, 3) := by decide +kernel
theorem dX10_sums_56 : decode cX10_sums 56 = .ok (.aload_n 0, 1) := by decide +kernel
theorem dX10_sums_57 : decode cX10_sums 57 = .ok (.invokevirtual 274, 3) := by decide +kernel
theorem dX10_sums_60 : decode cX10_sums 60 = .ok (.goto 38, 3) := by decide +kernel
theorem dX10_sums_63 : decode cX10_sums 63 = .ok (.iload_n 2, 1) := by decide +kernel
theorem dX10_sums_64 : decode cX10_sums 64 = .ok (.iconst 2, 1) := by decide +kernel
theorem dX10_sums_65 : decode cX10_sums 65 = .ok (.if_icmp .ne 10, 3) := by decide +kernel
theorem dX10_sums_68 : decode cX10_sums 68 = .ok (.aload_n 0, 1) := by decide +kernel
theorem dX10_sums_69 : decode cX10_sums 69 = .ok (.invokevirtual 283, 3) := by decide +kernel
theorem dX10_sums_72 : decode cX10_sums 72 = .ok (.goto 26, 3) := by decide +kernel
theorem dX10_sums_75 : decode cX10_sums 75 = .ok (.iload_n 2, 1) := by decide +kernel
theorem dX10_sums_76 : decode cX10_sums 76 = .ok (.iconst 3, 1) := by decide +kernel
theorem dX10_sums_77 : decode cX10_sums 77 = .ok (.if_icmp .ne 10, 3) := by decide +kernel
theorem dX10_sums_80 : decode cX10_sums 80 = .ok (.aload_n 0, 1) := by decide +kernel
theorem dX10_sums_81 : decode cX10_sums 81 = .ok (.invokevirtual 286, 3) := by decide +kernel
theorem dX10_sums_84 : decode cX10_sums 84 = .ok (.goto 14, 3) := by decide +kernel
theorem dX10_sums_87 : decode cX10_sums 87 = .ok (.aload_n 0, 1) := by decide +kernel
theorem dX10_sums_88 : decode cX10_sums 88 = .ok (.invokevirtual 277, 3) := by decide +kernel
theorem dX10_sums_91 : decode cX10_sums 91 = .ok (.aload_n 0, 1) := by decide +kernel
theorem dX10_sums_92 : decode cX10_sums 92 = .ok (.invokevirtual 286, 3) := by decide +kernel
theorem dX10_sums_95 : decode cX10_sums 95 = .ok (.iconst (-1), 1) := by decide +kernel
theorem dX10_sums_96 : decode cX10_sums 96 = .ok (.ixor, 1) := by decide +kernel
theorem dX10_sums_97 : decode cX10_sums 97 = .ok (.iand, 1) := by decide +kernel
theorem dX10_sums_98 : decode cX10_sums 98 = .ok (.invokevirtual 280, 3) := by decide +kernel
theorem dX10_sums_101 : decode cX10_sums 101 = .ok (.ireturn, 1) := by decide +kernel
theorem hd_yX10_sums : yX10_sums.cls = RX10 ∧ yX10_sums.cls ≠ "java/lang/invoke/MethodHandle" ∧ yX10_sums.cls ≠ "java/lang/invoke/VarHandle" ∧ (parseMethodDescriptor yX10_sums.desc).map (fun d => d.parameters.length) = some 2 := by decide +kernel
def uX10_sums : List Cond := List.cons (.code yX10_sums cX10_sums 3 (some .int)) (HAppend.hAppend ([.methodLink RX10 93 yX10_isTicket, .instanceMethod yX10_isTicket, .selects RX10 yX10_isTicket yX10_isTicket, .initialized RX10, .constantLong RX10 311 (5), .methodLink RX10 82 yX10_in, .static yX10_in, .methodLink RX10 302 yX10_fillFigures, .instanceMethod yX10_fillFigures, .selects RX10 yX10_fillFigures yX10_fillFigures, .methodLink RX10 277 yX10_all, .instanceMethod yX10_all, .selects RX10 yX10_all yX10_all, .methodLink RX10 286 yX10_evens, .instanceMethod yX10_evens, .selects RX10 yX10_evens yX10_evens, .methodLink RX10 283 yX10_lastHalf, .instanceMethod yX10_lastHalf, .selects RX10 yX10_lastHalf yX10_lastHalf, .methodLink RX10 274 yX10_firstHalf, .instanceMethod yX10_firstHalf, .selects RX10 yX10_firstHalf yX10_firstHalf, .methodLink RX10 280 yX10_sumOf, .instanceMethod yX10_sumOf, .selects RX10 yX10_sumOf yX10_sumOf, .methodLink RX10 292 yX10_unlikeMany, .instanceMethod yX10_unlikeMany, .selects RX10 yX10_unlikeMany yX10_unlikeMany] : List Cond) (HAppend.hAppend uX10_isTicket (HAppend.hAppend uX10_in (HAppend.hAppend uX10_fillFigures (HAppend.hAppend uX10_all (HAppend.hAppend uX10_evens (HAppend.hAppend uX10_lastHalf (HAppend.hAppend uX10_firstHalf (HAppend.hAppend uX10_sumOf uX10_unlikeMany)))))))))
theorem guX10_sums : GU uX10_sums := gu_cons (gu_app (by decide +kernel) (gu_ap guX10_isTicket (gu_ap guX10_in (gu_ap guX10_fillFigures (gu_ap guX10_all (gu_ap guX10_evens (gu_ap guX10_lastHalf (gu_ap guX10_firstHalf (gu_ap guX10_sumOf guX10_unlikeMany)))))))))
theorem gX10_sums__X10_isTicket_V93 : GoodIn uX10_sums (wsV RX10 93 RX10 yX10_isTicket uX10_isTicket) := gin_V (List.mem_of_getElem? (i := 1) rfl) (List.mem_of_getElem? (i := 2) rfl) (List.mem_of_getElem? (i := 3) rfl) (List.mem_of_getElem? (i := 4) rfl) (fun _ h => (List.mem_cons_of_mem _ (List.mem_append_right _ (List.mem_append_left _ h)))) guX10_isTicket
theorem gX10_sums__X10_in_S82 : GoodIn uX10_sums (va_wsS RX10 82 yX10_in uX10_in) := gin_S (List.mem_of_getElem? (i := 6) rfl) (List.mem_of_getElem? (i := 7) rfl) (List.mem_of_getElem? (i := 4) rfl) (fun _ h => (List.mem_cons_of_mem _ (List.mem_append_right _ (List.mem_append_right _ (List.mem_append_left _ h))))) guX10_in
theorem gX10_sums__X10_fillFigures_V302 : GoodIn uX10_sums (wsV RX10 302 RX10 yX10_fillFigures uX10_fillFigures) := gin_V (List.mem_of_getElem? (i := 8) rfl) (List.mem_of_getElem? (i := 9) rfl) (List.mem_of_getElem? (i := 10) rfl) (List.mem_of_getElem? (i := 4) rfl) (fun _ h => (List.mem_cons_of_mem _ (List.mem_append_right _ (List.mem_append_right _ (List.mem_append_right _ (List.mem_append_left _ h)))))) guX10_fillFigures
theorem gX10_sums__X10_all_V277 : GoodIn uX10_sums (wsV RX10 277 RX10 yX10_all uX10_all) := gin_V (List.mem_of_getElem? (i := 11) rfl) (List.mem_of_getElem? (i := 12) rfl) (List.mem_of_getElem? (i := 13) rfl) (List.mem_of_getElem? (i := 4) rfl) (fun _ h => (List.mem_cons_of_mem _ (List.mem_append_right _ (List.mem_append_right _ (List.mem_append_right _ (List.mem_append_right _ (List.mem_append_left _ h))))))) guX10_all
theorem gX10_sums__X10_evens_V286 : GoodIn uX10_sums (wsV RX10 286 RX10 yX10_evens uX10_evens) := gin_V (List.mem_of_getElem? (i := 14) rfl) (List.mem_of_getElem? (i := 15) rfl) (List.mem_of_getElem? (i := 16) rfl) (List.mem_of_getElem? (i := 4) rfl) (fun _ h => (List.mem_cons_of_mem _ (List.mem_append_right _ (List.mem_append_right _ (List.mem_append_right _ (List.mem_append_right _ (List.mem_append_right _ (List.mem_append_left _ h)))))))) guX10_evens
theorem gX10_sums__X10_lastHalf_V283 : GoodIn uX10_sums (wsV RX10 283 RX10 yX10_lastHalf uX10_lastHalf) := gin_V (List.mem_of_getElem? (i := 17) rfl) (List.mem_of_getElem? (i := 18) rfl) (List.mem_of_getElem? (i := 19) rfl) (List.mem_of_getElem? (i := 4) rfl) (fun _ h => (List.mem_cons_of_mem _ (List.mem_append_right _ (List.mem_append_right _ (List.mem_append_right _ (List.mem_append_right _ (List.mem_append_right _ (List.mem_append_right _ (List.mem_append_left _ h))))))))) guX10_lastHalf
theorem gX10_sums__X10_firstHalf_V274 : GoodIn uX10_sums (wsV RX10 274 RX10 yX10_firstHalf uX10_firstHalf) := gin_V (List.mem_of_getElem? (i := 20) rfl) (List.mem_of_getElem? (i := 21) rfl) (List.mem_of_getElem? (i := 22) rfl) (List.mem_of_getElem? (i := 4) rfl) (fun _ h => (List.mem_cons_of_mem _ (List.mem_append_right _ (List.mem_append_right _ (List.mem_append_right _ (List.mem_append_right _ (List.mem_append_right _ (List.mem_append_right _ (List.mem_append_right _ (List.mem_append_left _ h)))))))))) guX10_firstHalf
theorem gX10_sums__X10_sumOf_V280 : GoodIn uX10_sums (wsV RX10 280 RX10 yX10_sumOf uX10_sumOf) := gin_V (List.mem_of_getElem? (i := 23) rfl) (List.mem_of_getElem? (i := 24) rfl) (List.mem_of_getElem? (i := 25) rfl) (List.mem_of_getElem? (i := 4) rfl) (fun _ h => (List.mem_cons_of_mem _ (List.mem_append_right _ (List.mem_append_right _ (List.mem_append_right _ (List.mem_append_right _ (List.mem_append_right _ (List.mem_append_right _ (List.mem_append_right _ (List.mem_append_right _ (List.mem_append_left _ h))))))))))) guX10_sumOf
theorem gX10_sums__X10_unlikeMany_V292 : GoodIn uX10_sums (wsV RX10 292 RX10 yX10_unlikeMany uX10_unlikeMany) := gin_V (List.mem_of_getElem? (i := 26) rfl) (List.mem_of_getElem? (i := 27) rfl) (List.mem_of_getElem? (i := 28) rfl) (List.mem_of_getElem? (i := 4) rfl) (fun _ h => (List.mem_cons_of_mem _ (List.mem_append_right _ (List.mem_append_right _ (List.mem_append_right _ (List.mem_append_right _ (List.mem_append_right _ (List.mem_append_right _ (List.mem_append_right _ (List.mem_append_right _ (List.mem_append_right _ h))))))))))) guX10_unlikeMany
set_option maxHeartbeats 4000000 in
set_option maxRecDepth 100000 in
theorem kX10_sums (l : Launch) (dC : Nat → ClassId) (dI : Nat → Nat → Nat) (o0 : Nat) (x_th : Int32) (mwo : Nat) (mim : Nat) (mhi : Nat) (mlu : Nat) (mtp : Nat) (x_td : Int32) (mfv : Nat) (x_sz : Int32) (x_at : Int32) (x_fr : Int32) (x_to : Int32) (x_va : Int32) (x_fk : Int32) (x_fp : Int32) (mfr : Nat) (mwt : Nat) (x_wt : Int32) (x_op : Int32) (x_jo : Int32) (mfg : Nat) (mpl : Nat) (x_dr : Int64) (mtm : Nat) (mfa : Nat) (mqu : Nat) (mmo : Nat) (mwy : Nat) (mwn : Nat) (mma : Nat) (mwi : Nat) (mnu : Nat) (mmv : Nat) (c_wo : ClassId) (c_fg : ClassId) (w_wo : Nat → Int32) (w_fg : Nat → Int32) (ln : Int32) (bs : Int32) (tk : Int32) (lw : Int32) (li : Int32) (a1 : Int32) (a2 : Int32) (sz : Nat) (b_ln : (0 : Int) ≤ ln.toInt ∧ ln.toInt ≤ 12) (b_bs : (0 : Int) ≤ bs.toInt ∧ bs.toInt ≤ 16) (b_tk : (0 : Int) ≤ tk.toInt ∧ tk.toInt ≤ 20000) (b_lw : (0 : Int) ≤ lw.toInt ∧ lw.toInt ≤ 9) (ha_mfg : rg w_fg 12 0 15) (hw0 : w_wo 0 = ln) (hw1 : w_wo 1 = bs) (hw2 : w_wo 2 = tk) (hw3 : w_wo 3 = lw) (hw4 : w_wo 4 = li) (hwz : (ln.toInt = 0 ∧ bs.toInt = 0 ∧ tk.toInt = 0 ∧ lw.toInt = 0) ∨ (1 ≤ ln.toInt ∧ 2 ≤ bs.toInt ∧ 1 ≤ tk.toInt)) : Met l yX10_sums uX10_sums ({ frames := 2, cells := 0, slots := 0, locals := 47 }) (va_Pc [.ref o0, .int a1, .int a2] (hw (dC, dI) vwCl [(o0, .inr (8, [.int x_th, .ref mwo, .ref mim, .ref mhi, .ref mlu, .ref mtp, .int x_td, .ref mfv, .int x_sz, .int x_at, .int x_fr, .int x_to, .int x_va, .int x_fk, .int x_fp, .ref mfr, .ref mwt, .int x_wt, .int x_op, .int x_jo, .ref mfg, .ref mpl, .long x_dr, .ref mtm, .ref mfa, .ref mqu, .ref mmo, .ref mwy, .ref mwn, .ref mma, .ref mwi, .ref mnu, .ref mmv])), (mwo, .inl (c_wo, 1875, .inl w_wo)), (mfg, .inl (c_fg, 12, .inl w_fg))] [(c_wo, .int), (c_fg, .int)] sz)) (va_Qi (fun (r : Int32) (_ : Unit) => True) (fun (_ : Unit) t => ∃ (o0_ : Nat → Int32), (rg o0_ 12 0 15) ∧ va_P (dC, dI) vwCl [(o0, .inr (8, [.int x_th, .ref mwo, .ref mim, .ref mhi, .ref mlu, .ref mtp, .int x_td, .ref mfv, .int x_sz, .int x_at, .int x_fr, .int x_to, .int x_va, .int x_fk, .int x_fp, .ref mfr, .ref mwt, .int x_wt, .int x_op, .int x_jo, .ref mfg, .ref mpl, .long x_dr, .ref mtm, .ref mfa, .ref mqu, .ref mmo, .ref mwy, .ref mwn, .ref mma, .ref mwi, .ref mnu, .ref mmv])), (mwo, .inl (c_wo, 1875, .inl w_wo)), (mfg, .inl (c_fg, 12, .inl o0_))] t.heap ∧ va_K (dC, dI) vwCl [(c_wo, .int), (c_fg, .int)] t ∧ va_D (va_A [(o0, .inr (8, [.int x_th, .ref mwo, .ref mim, .ref mhi, .ref mlu, .ref mtp, .int x_td, .ref mfv, .int x_sz, .int x_at, .int x_fr, .int x_to, .int x_va, .int x_fk, .int x_fp, .ref mfr, .ref mwt, .int x_wt, .int x_op, .int x_jo, .ref mfg, .ref mpl, .long x_dr, .ref mtm, .ref mfa, .ref mqu, .ref mmo, .ref mwy, .ref mwn, .ref mma, .ref mwi, .ref mnu, .ref mmv])), (mwo, .inl (c_wo, 1875, .inl w_wo)), (mfg, .inl (c_fg, 12, .inl w_fg))] sz) [(o0, .inr (8, [.int x_th, .ref mwo, .ref mim, .ref mhi, .ref mlu, .ref mtp, .int x_td, .ref mfv, .int x_sz, .int x_at, .int x_fr, .int x_to, .int x_va, .int x_fk, .int x_fp, .ref mfr, .ref mwt, .int x_wt, .int x_op, .int x_jo, .ref mfg, .ref mpl, .long x_dr, .ref mtm, .ref mfa, .ref mqu, .ref mmo, .ref mwy, .ref mwn, .ref mma, .ref mwi, .ref mnu, .ref mmv])), (mwo, .inl (c_wo, 1875, .inl w_wo)), (mfg, .inl (c_fg, 12, .inl o0_))]) (va_A [(o0, .inr (8, [.int x_th, .ref mwo, .ref mim, .ref mhi, .ref mlu, .ref mtp, .int x_td, .ref mfv, .int x_sz, .int x_at, .int x_fr, .int x_to, .int x_va, .int x_fk, .int x_fp, .ref mfr, .ref mwt, .int x_wt, .int x_op, .int x_jo, .ref mfg, .ref mpl, .long x_dr, .ref mtm, .ref mfa, .ref mqu, .ref mmo, .ref mwy, .ref mwn, .ref mma, .ref mwi, .ref mnu, .ref mmv])), (mwo, .inl (c_wo, 1875, .inl w_wo)), (mfg, .inl (c_fg, 12, .inl w_fg))] sz)) 0 0 (va_A [(o0, .inr (8, [.int x_th, .ref mwo, .ref mim, .ref mhi, .ref mlu, .ref mtp, .int x_td, .ref mfv, .int x_sz, .int x_at, .int x_fr, .int x_to, .int x_va, .int x_fk, .int x_fp, .ref mfr, .ref mwt, .int x_wt, .int x_op, .int x_jo, .ref mfg, .ref mpl, .long x_dr, .ref mtm, .ref mfa, .ref mqu, .ref mmo, .ref mwy, .ref mwn, .ref mma, .ref mwi, .ref mnu, .ref mmv])), (mwo, .inl (c_wo, 1875, .inl w_wo)), (mfg, .inl (c_fg, 12, .inl w_fg))] sz) := by
  refine Met.ofW (cc := cX10_sums) (maxL := 3) (ret := (some .int)) pn_X10 rfl ?_
  intro p e s m args below meth c s₁ B hml hv
  obtain ⟨rfl, hsz, hP, hK, hD0, hN⟩ := hv
  have hx := B.exec
  have hb := B.bytes
  have hr := B.returns
  have hts := atoms_spec (ws := uX10_sums) B.pre
  have hown : s.vm.findClass RX10 = some m.cls := hown_of B.named rfl
  have hlocks := B.notSynchronized
  subst hsz
  have hD := hD0.self (sz := s.heap.size)
  generalize hAe : va_A [(o0, .inr (8, [.int x_th, .ref mwo, .ref mim, .ref mhi, .ref mlu, .ref mtp, .int x_td, .ref mfv, .int x_sz, .int x_at, .int x_fr, .int x_to, .int x_va, .int x_fk, .int x_fp, .ref mfr, .ref mwt, .int x_wt, .int x_op, .int x_jo, .ref mfg, .ref mpl, .long x_dr, .ref mtm, .ref mfa, .ref mqu, .ref mmo, .ref mwy, .ref mwn, .ref mma, .ref mwi, .ref mnu, .ref mmv])), (mwo, .inl (c_wo, 1875, .inl w_wo)), (mfg, .inl (c_fg, 12, .inl w_fg))] s.heap.size = A at hD ⊢
  have hA : ∀ q : Nat, s.heap.size ≤ q → A q := fun q h => by rw [← hAe]; exact Or.inr h
  have hS : va_S A s.heap s.heap [] := va_S.rf
  have hP : va_P (dC, dI) vwCl [(o0, .inr (8, [.int x_th, .ref mwo, .ref mim, .ref mhi, .ref mlu, .ref mtp, .int x_td, .ref mfv, .int x_sz, .int x_at, .int x_fr, .int x_to, .int x_va, .int x_fk, .int x_fp, .ref mfr, .ref mwt, .int x_wt, .int x_op, .int x_jo, .ref mfg, .ref mpl, .long x_dr, .ref mtm, .ref mfa, .ref mqu, .ref mmo, .ref mwy, .ref mwn, .ref mma, .ref mwi, .ref mnu, .ref mmv])), (mwo, .inl (c_wo, 1875, .inl w_wo)), (mfg, .inl (c_fg, 12, .inl w_fg))] s.heap := hP
  have hl := lv_entry ([.ref o0, .int a1, .int a2]) (n := 3) (Nat.le_of_ble_eq_true rfl)
  rw [lg_entry_eq]
  generalize (lg_sl ([.ref o0, .int a1, .int a2]) ++ List.replicate (3 - (lg_sl ([.ref o0, .int a1, .int a2])).length) Slot.unset).toArray = ls at hl ⊢
  have hl : lv_has ls 3 [(0, .ref o0), (1, .int a1), (2, .int a2)] := hl
  refine lv_aload_n hx hb dX10_sums_0 rfl (lv_at hl 0 rfl) ?_
  refine lv_iload_n hx hb dX10_sums_1 rfl (lv_at hl 1 rfl) ?_
  obtain ⟨z_40, e_z_40⟩ : ∃ y : Int64, y = a1.toInt64 := ⟨_, rfl⟩
  refine lv_i2l (v := z_40) hx hb dX10_sums_2 e_z_40.symm ?_
  obtain ⟨q_z_40, b_z_40⟩ := ti_i2l e_z_40 (ti_rng a1)
  refine vp_callSi (W.runV (As := [.long z_40]) (rest := []) ⟨hx, hb, hml, hown, hts⟩ (kX10_isTicket l dC dI o0 x_th mwo mim mhi mlu mtp x_td mfv x_sz x_at x_fr x_to x_va x_fk x_fp mfr mwt x_wt x_op x_jo mfg mpl x_dr mtm mfa mqu mmo mwy mwn mma mwi mnu mmv c_wo w_wo ln bs tk lw li z_40 b_ln b_bs b_tk b_lw (hw0) (hw1) (hw2) (hw3) (hw4) (hwz)) (cwV 1 hts gX10_sums__X10_isTicket_V93 rfl rfl rfl hd_yX10_isTicket ⟨lel 2 2 rfl, lel 47 47 rfl⟩) ⟨pw_fb, rcv_X10 hK hP (q0 := 0) rfl, (pw_use hP hK hN [0, 1] rfl [0] rfl)⟩ rfl rfl hl.1 rfl (lv_room (Nat.le_of_ble_eq_true rfl)) dX10_sums_3 ⟨lel 0 0 rfl, lel 0 0 rfl⟩) (fun r_41 h_r_41 => ?_)
  obtain ⟨b_r_41, nz_r_41⟩ := h_r_41
  have b_r_41 : (0 : Int) ≤ r_41.toInt ∧ r_41.toInt ≤ 1 := b_r_41
  refine lv_if_eq (tgt := 21) hx hb dX10_sums_6 (by decide) (fun c_42 => ?_) (fun c_42 => ?_)
  ·
    have n_c_42 : (r_41.toInt : Int) = 0 := c_eq rfl (by decide) c_42
    have b_r_41 : (0 : Int) ≤ r_41.toInt ∧ r_41.toInt ≤ 0 := r_eq1 b_r_41 (by decide : (0 : Int) ≤ (0 : Int32).toInt ∧ (0 : Int32).toInt ≤ 0) n_c_42 (by decide)
    refine lv_bipush (v := (-2)) hx hb dX10_sums_21 (by decide) ?_
    have hP9 := hP.sub (ws' := [(o0, .inr (8, [.int x_th, .ref mwo, .ref mim, .ref mhi, .ref mlu, .ref mtp, .int x_td, .ref mfv, .int x_sz, .int x_at, .int x_fr, .int x_to, .int x_va, .int x_fk, .int x_fp, .ref mfr, .ref mwt, .int x_wt, .int x_op, .int x_jo, .ref mfg, .ref mpl, .long x_dr, .ref mtm, .ref mfa, .ref mqu, .ref mmo, .ref mwy, .ref mwn, .ref mma, .ref mwi, .ref mnu, .ref mmv])), (mwo, .inl (c_wo, 1875, .inl w_wo)), (mfg, .inl (c_fg, 12, .inl w_fg))]) [0, 1, 2] rfl
    have hD9 := hD.sub (ws' := [(o0, .inr (8, [.int x_th, .ref mwo, .ref mim, .ref mhi, .ref mlu, .ref mtp, .int x_td, .ref mfv, .int x_sz, .int x_at, .int x_fr, .int x_to, .int x_va, .int x_fk, .int x_fp, .ref mfr, .ref mwt, .int x_wt, .int x_op, .int x_jo, .ref mfg, .ref mpl, .long x_dr, .ref mtm, .ref mfa, .ref mqu, .ref mmo, .ref mwy, .ref mwn, .ref mma, .ref mwi, .ref mnu, .ref mmv])), (mwo, .inl (c_wo, 1875, .inl w_wo)), (mfg, .inl (c_fg, 12, .inl w_fg))]) [0, 1, 2] (by decide) rfl
    have hK9 := hK.sub (tys' := [(c_wo, .int), (c_fg, .int)]) [0, 1] rfl
    exact W.iret (v := (-2)) hx hb hr (fun t ht hW => ⟨⟨(-2), (), rfl, trivial, w_fg, ha_mfg, by rw [ht]; exact hP9, va_K.moved hW.alike hK9, hD9⟩, hS.F ht⟩) hS.2.2 dX10_sums_23
  ·
    have n_c_42 : (r_41.toInt : Int) ≠ 0 := c_ne rfl (by decide) c_42
    have b_r_41 : (1 : Int) ≤ r_41.toInt ∧ r_41.toInt ≤ 1 := r_ne1 b_r_41 (by decide : (0 : Int) ≤ (0 : Int32).toInt ∧ (0 : Int32).toInt ≤ 0) n_c_42 (by decide)
    obtain ⟨b_z_40, g_43⟩ := nz_r_41 c_42
    have b_a1 : (0 : Int) ≤ a1.toInt ∧ a1.toInt ≤ 19999 := by
      have q0 := b_z_40; have q1 := q_z_40; have q2 := (ti_rng a1); omega
    refine lv_iload_n hx hb dX10_sums_9 rfl (lv_at hl 2 rfl) ?_
    obtain ⟨z_44, e_z_44⟩ : ∃ y : Int64, y = a2.toInt64 := ⟨_, rfl⟩
    refine lv_i2l (v := z_44) hx hb dX10_sums_10 e_z_44.symm ?_
    obtain ⟨q_z_44, b_z_44⟩ := ti_i2l e_z_44 (ti_rng a2)
    refine lv_lconst (v := 0) hx hb dX10_sums_11 (by decide) ?_
    refine lv_ldc2 (v := 5) hx hb hown (hts (.constantLong RX10 311 (5)) (List.mem_of_getElem? (i := 5) rfl)) dX10_sums_12 ?_
    refine vp_callSi (W.runS (As := [.long z_44, .long 0, .long 5]) (rest := []) ⟨hx, hb, hml, hown, hts⟩ (kX10_in l dC dI z_44 0 5 ) (va_cwS 3 hts gX10_sums__X10_in_S82 rfl rfl rfl hd_yX10_in.2 ⟨lel 1 2 rfl, lel 25 47 rfl⟩) ⟨pn_fb, pn_use⟩ rfl rfl hl.1 rfl (lv_room (Nat.le_of_ble_eq_true rfl)) dX10_sums_15 ⟨lel 0 0 rfl, lel 0 0 rfl⟩) (fun r_45 h_r_45 => ?_)
    obtain ⟨b_r_45, nz_r_45⟩ := h_r_45
    have b_r_45 : (0 : Int) ≤ r_45.toInt ∧ r_45.toInt ≤ 1 := b_r_45
    refine lv_if_ne (tgt := 24) hx hb dX10_sums_18 (by decide) (fun c_46 => ?_) (fun c_46 => ?_)
    ·
      have n_c_46 : (r_45.toInt : Int) ≠ 0 := c_ne rfl (by decide) c_46
      have b_r_45 : (1 : Int) ≤ r_45.toInt ∧ r_45.toInt ≤ 1 := r_ne1 b_r_45 (by decide : (0 : Int) ≤ (0 : Int32).toInt ∧ (0 : Int32).toInt ≤ 0) n_c_46 (by decide)
      have g_47 := nz_r_45 c_46
      have lt0_g_47 := (by decide : (0 : Int64).toInt = 0)
      have lt1_g_47 := (by decide : (5 : Int64).toInt = 5)
      have b_z_44 : (0 : Int) ≤ z_44.toInt ∧ z_44.toInt ≤ 5 := by
        have q0 := b_z_44
        have q1 := (by decide : (0 : Int) ≤ (0 : Int64).toInt ∧ (0 : Int64).toInt ≤ 0)
        have q2 := (by decide : (5 : Int) ≤ (5 : Int64).toInt ∧ (5 : Int64).toInt ≤ 5)
        omega
      have b_a2 : (0 : Int) ≤ a2.toInt ∧ a2.toInt ≤ 5 := by
        have q0 := b_z_44; have q1 := q_z_44; have q2 := (ti_rng a2); omega
      refine lv_aload_n hx hb dX10_sums_24 rfl (lv_at hl 0 rfl) ?_
      refine lv_iload_n hx hb dX10_sums_25 rfl (lv_at hl 1 rfl) ?_
      have hFc := va_free (wc := [(o0, .inr (8, [.int x_th, .ref mwo, .ref mim, .ref mhi, .ref mlu, .ref mtp, .int x_td, .ref mfv, .int x_sz, .int x_at, .int x_fr, .int x_to, .int x_va, .int x_fk, .int x_fp, .ref mfr, .ref mwt, .int x_wt, .int x_op, .int x_jo, .ref mfg, .ref mpl, .long x_dr, .ref mtm, .ref mfa, .ref mqu, .ref mmo, .ref mwy, .ref mwn, .ref mma, .ref mwi, .ref mnu, .ref mmv])), (mwo, .inl (c_wo, 1875, .inl w_wo)), (mfg, .inl (c_fg, 12, .inl w_fg))]) hD hS hA [0, 1, 2] rfl
      refine va_callv (va_runV (As := [.int a1]) (rest := []) ⟨hx, hb, hml, hown, hts⟩ (kX10_fillFigures l dC dI o0 x_th mwo mim mhi mlu mtp x_td mfv x_sz x_at x_fr x_to x_va x_fk x_fp mfr mwt x_wt x_op x_jo mfg mpl x_dr mtm mfa mqu mmo mwy mwn mma mwi mnu mmv c_wo c_fg w_wo w_fg ln bs tk lw li a1 (s.heap.size) b_ln b_bs b_tk b_lw b_a1 ha_mfg (hw0) (hw1) (hw2) (hw3) (hw4) (hwz)) (cwV 1 hts gX10_sums__X10_fillFigures_V302 rfl rfl rfl hd_yX10_fillFigures ⟨lel 1 2 rfl, lel 23 47 rfl⟩) ⟨hw_fb, rcv_X10 hK hP (q0 := 0) rfl, (hw_use hP hD hK hN [0, 1, 2] rfl (by decide) rfl [0, 1] rfl)⟩ rfl rfl hl.1 rfl (lv_room (Nat.le_of_ble_eq_true rfl)) dX10_sums_26 ⟨lel 0 0 rfl, lel 0 0 rfl⟩) hS (fun q _ h => hFc q h) hFc (fun u_49 t H1 locs ht hvm hw_r_48 hB hz1 hk1 hS => ?_)
      obtain ⟨o0_50, ha_51, hP1, hK1, hD1⟩ := hB
      rw [ht] at hP1
      have hK1 := va_K.moved hvm.symm hK1
      obtain ⟨hP, hD⟩ := va_join (wr := []) (w1 := [(o0, .inr (8, [.int x_th, .ref mwo, .ref mim, .ref mhi, .ref mlu, .ref mtp, .int x_td, .ref mfv, .int x_sz, .int x_at, .int x_fr, .int x_to, .int x_va, .int x_fk, .int x_fp, .ref mfr, .ref mwt, .int x_wt, .int x_op, .int x_jo, .ref mfg, .ref mpl, .long x_dr, .ref mtm, .ref mfa, .ref mqu, .ref mmo, .ref mwy, .ref mwn, .ref mma, .ref mwi, .ref mnu, .ref mmv])), (mwo, .inl (c_wo, 1875, .inl w_wo)), (mfg, .inl (c_fg, 12, .inl o0_50))]) hP hD [0, 1, 2] [] rfl rfl (by decide) (by decide) hk1 hFc hP1 hD1
      have hK := (hK.sub (tys' := []) [] rfl).app hK1
      generalize H1 = H at hP hS ⊢
      have hP : va_P (dC, dI) vwCl [(o0, .inr (8, [.int x_th, .ref mwo, .ref mim, .ref mhi, .ref mlu, .ref mtp, .int x_td, .ref mfv, .int x_sz, .int x_at, .int x_fr, .int x_to, .int x_va, .int x_fk, .int x_fp, .ref mfr, .ref mwt, .int x_wt, .int x_op, .int x_jo, .ref mfg, .ref mpl, .long x_dr, .ref mtm, .ref mfa, .ref mqu, .ref mmo, .ref mwy, .ref mwn, .ref mma, .ref mwi, .ref mnu, .ref mmv])), (mwo, .inl (c_wo, 1875, .inl w_wo)), (mfg, .inl (c_fg, 12, .inl o0_50))] H := hP
      have hD : va_D A [(o0, .inr (8, [.int x_th, .ref mwo, .ref mim, .ref mhi, .ref mlu, .ref mtp, .int x_td, .ref mfv, .int x_sz, .int x_at, .int x_fr, .int x_to, .int x_va, .int x_fk, .int x_fp, .ref mfr, .ref mwt, .int x_wt, .int x_op, .int x_jo, .ref mfg, .ref mpl, .long x_dr, .ref mtm, .ref mfa, .ref mqu, .ref mmo, .ref mwy, .ref mwn, .ref mma, .ref mwi, .ref mnu, .ref mmv])), (mwo, .inl (c_wo, 1875, .inl w_wo)), (mfg, .inl (c_fg, 12, .inl o0_50))] := hD
      have hK : va_K (dC, dI) vwCl [(c_wo, .int), (c_fg, .int)] s := hK
      refine lv_iload_n hx hb dX10_sums_29 rfl (lv_at hl 2 rfl) ?_
      refine lv_iconst (v := 5) hx hb dX10_sums_30 (by decide) ?_
      refine lv_icmp_ne (tgt := 39) hx hb dX10_sums_31 (by decide) (fun c_52 => ?_) (fun c_52 => ?_)
      ·
        have n_c_52 : (a2.toInt : Int) ≠ 5 := c_ne rfl (by decide) c_52
        have b_a2 : (0 : Int) ≤ a2.toInt ∧ a2.toInt ≤ 4 := r_ne2 b_a2 (by decide : (5 : Int) ≤ (5 : Int32).toInt ∧ (5 : Int32).toInt ≤ 5) n_c_52 (by decide)
        refine lv_aload_n hx hb dX10_sums_39 rfl (lv_at hl 0 rfl) ?_
        refine lv_iload_n hx hb dX10_sums_40 rfl (lv_at hl 2 rfl) ?_
        refine cutW (σ := Int32) (pc2 := 98) (st2 := fun v => [.int v, .ref o0]) (cells2 := 0) (slots2 := 0) (fun v H locs ls => va_P (dC, dI) vwCl [(o0, .inr (8, [.int x_th, .ref mwo, .ref mim, .ref mhi, .ref mlu, .ref mtp, .int x_td, .ref mfv, .int x_sz, .int x_at, .int x_fr, .int x_to, .int x_va, .int x_fk, .int x_fp, .ref mfr, .ref mwt, .int x_wt, .int x_op, .int x_jo, .ref mfg, .ref mpl, .long x_dr, .ref mtm, .ref mfa, .ref mqu, .ref mmo, .ref mwy, .ref mwn, .ref mma, .ref mwi, .ref mnu, .ref mmv])), (mwo, .inl (c_wo, 1875, .inl w_wo)), (mfg, .inl (c_fg, 12, .inl o0_50))] H ∧ va_D A [(o0, .inr (8, [.int x_th, .ref mwo, .ref mim, .ref mhi, .ref mlu, .ref mtp, .int x_td, .ref mfv, .int x_sz, .int x_at, .int x_fr, .int x_to, .int x_va, .int x_fk, .int x_fp, .ref mfr, .ref mwt, .int x_wt, .int x_op, .int x_jo, .ref mfg, .ref mpl, .long x_dr, .ref mtm, .ref mfa, .ref mqu, .ref mmo, .ref mwy, .ref mwn, .ref mma, .ref mwi, .ref mnu, .ref mmv])), (mwo, .inl (c_wo, 1875, .inl w_wo)), (mfg, .inl (c_fg, 12, .inl o0_50))] ∧ va_S A s.heap H locs ∧ lv_has ls 3 [(0, .ref o0), (1, .int a1), (2, .int a2)]) (fun v H locs ls hI => ?_) (fun hj_98_65 => ?_)
        ·
          obtain ⟨y_65, rfl⟩ : ∃ z, z = v := ⟨_, rfl⟩
          obtain ⟨hP, hD, hS, hl⟩ := hI
          have hP : va_P (dC, dI) vwCl [(o0, .inr (8, [.int x_th, .ref mwo, .ref mim, .ref mhi, .ref mlu, .ref mtp, .int x_td, .ref mfv, .int x_sz, .int x_at, .int x_fr, .int x_to, .int x_va, .int x_fk, .int x_fp, .ref mfr, .ref mwt, .int x_wt, .int x_op, .int x_jo, .ref mfg, .ref mpl, .long x_dr, .ref mtm, .ref mfa, .ref mqu, .ref mmo, .ref mwy, .ref mwn, .ref mma, .ref mwi, .ref mnu, .ref mmv])), (mwo, .inl (c_wo, 1875, .inl w_wo)), (mfg, .inl (c_fg, 12, .inl o0_50))] H := hP
          have hD : va_D A [(o0, .inr (8, [.int x_th, .ref mwo, .ref mim, .ref mhi, .ref mlu, .ref mtp, .int x_td, .ref mfv, .int x_sz, .int x_at, .int x_fr, .int x_to, .int x_va, .int x_fk, .int x_fp, .ref mfr, .ref mwt, .int x_wt, .int x_op, .int x_jo, .ref mfg, .ref mpl, .long x_dr, .ref mtm, .ref mfa, .ref mqu, .ref mmo, .ref mwy, .ref mwn, .ref mma, .ref mwi, .ref mnu, .ref mmv])), (mwo, .inl (c_wo, 1875, .inl w_wo)), (mfg, .inl (c_fg, 12, .inl o0_50))] := hD
          have hl : lv_has ls 3 [(0, .ref o0), (1, .int a1), (2, .int a2)] := hl
          refine vp_callSi (W.runV (As := [.int y_65]) (rest := []) ⟨hx, hb, hml, hown, hts⟩ (kX10_sumOf l dC dI o0 x_th mwo mim mhi mlu mtp x_td mfv x_sz x_at x_fr x_to x_va x_fk x_fp mfr mwt x_wt x_op x_jo mfg mpl x_dr mtm mfa mqu mmo mwy mwn mma mwi mnu mmv c_wo c_fg w_wo o0_50 ln bs tk lw li y_65 b_ln b_bs b_tk b_lw ha_51 (hw0) (hw1) (hw2) (hw3) (hw4) (hwz)) (cwV 1 hts gX10_sums__X10_sumOf_V280 rfl rfl rfl hd_yX10_sumOf ⟨lel 1 2 rfl, lel 23 47 rfl⟩) ⟨pw_fb, rcv_X10 hK hP (q0 := 0) rfl, (pw_use hP hK hN [0, 1, 2] rfl [0, 1] rfl)⟩ rfl rfl hl.1 rfl (lv_room (Nat.le_of_ble_eq_true rfl)) dX10_sums_98 ⟨lel 0 0 rfl, lel 0 0 rfl⟩) (fun r_66 h_r_66 => ?_)
          have b_r_66 := h_r_66
          have b_r_66 : (0 : Int) ≤ r_66.toInt ∧ r_66.toInt ≤ 180 := b_r_66
          have hP9 := hP.sub (ws' := [(o0, .inr (8, [.int x_th, .ref mwo, .ref mim, .ref mhi, .ref mlu, .ref mtp, .int x_td, .ref mfv, .int x_sz, .int x_at, .int x_fr, .int x_to, .int x_va, .int x_fk, .int x_fp, .ref mfr, .ref mwt, .int x_wt, .int x_op, .int x_jo, .ref mfg, .ref mpl, .long x_dr, .ref mtm, .ref mfa, .ref mqu, .ref mmo, .ref mwy, .ref mwn, .ref mma, .ref mwi, .ref mnu, .ref mmv])), (mwo, .inl (c_wo, 1875, .inl w_wo)), (mfg, .inl (c_fg, 12, .inl o0_50))]) [0, 1, 2] rfl
          have hD9 := hD.sub (ws' := [(o0, .inr (8, [.int x_th, .ref mwo, .ref mim, .ref mhi, .ref mlu, .ref mtp, .int x_td, .ref mfv, .int x_sz, .int x_at, .int x_fr, .int x_to, .int x_va, .int x_fk, .int x_fp, .ref mfr, .ref mwt, .int x_wt, .int x_op, .int x_jo, .ref mfg, .ref mpl, .long x_dr, .ref mtm, .ref mfa, .ref mqu, .ref mmo, .ref mwy, .ref mwn, .ref mma, .ref mwi, .ref mnu, .ref mmv])), (mwo, .inl (c_wo, 1875, .inl w_wo)), (mfg, .inl (c_fg, 12, .inl o0_50))]) [0, 1, 2] (by decide) rfl
          have hK9 := hK.sub (tys' := [(c_wo, .int), (c_fg, .int)]) [0, 1] rfl
          exact W.iret (v := r_66) hx hb hr (fun t ht hW => ⟨⟨r_66, (), rfl, trivial, o0_50, ha_51, by rw [ht]; exact hP9, va_K.moved hW.alike hK9, hD9⟩, hS.F ht⟩) hS.2.2 dX10_sums_101
        ·
          refine lv_if_ne (tgt := 51) hx hb dX10_sums_41 (by decide) (fun c_53 => ?_) (fun c_53 => ?_)
          ·
            have n_c_53 : (a2.toInt : Int) ≠ 0 := c_ne rfl (by decide) c_53
            have b_a2 : (1 : Int) ≤ a2.toInt ∧ a2.toInt ≤ 4 := r_ne1 b_a2 (by decide : (0 : Int) ≤ (0 : Int32).toInt ∧ (0 : Int32).toInt ≤ 0) n_c_53 (by decide)
            refine lv_iload_n hx hb dX10_sums_51 rfl (lv_at hl 2 rfl) ?_
            refine lv_iconst (v := 1) hx hb dX10_sums_52 (by decide) ?_
            refine lv_icmp_ne (tgt := 63) hx hb dX10_sums_53 (by decide) (fun c_67 => ?_) (fun c_67 => ?_)
            ·
              have n_c_67 : (a2.toInt : Int) ≠ 1 := c_ne rfl (by decide) c_67
              have b_a2 : (2 : Int) ≤ a2.toInt ∧ a2.toInt ≤ 4 := r_ne1 b_a2 (by decide : (1 : Int) ≤ (1 : Int32).toInt ∧ (1 : Int32).toInt ≤ 1) n_c_67 (by decide)
              refine lv_iload_n hx hb dX10_sums_63 rfl (lv_at hl 2 rfl) ?_
              refine lv_iconst (v := 2) hx hb dX10_sums_64 (by decide) ?_
              refine lv_icmp_ne (tgt := 75) hx hb dX10_sums_65 (by decide) (fun c_68 => ?_) (fun c_68 => ?_)
              ·
                have n_c_68 : (a2.toInt : Int) ≠ 2 := c_ne rfl (by decide) c_68
                have b_a2 : (3 : Int) ≤ a2.toInt ∧ a2.toInt ≤ 4 := r_ne1 b_a2 (by decide : (2 : Int) ≤ (2 : Int32).toInt ∧ (2 : Int32).toInt ≤ 2) n_c_68 (by decide)
                refine lv_iload_n hx hb dX10_sums_75 rfl (lv_at hl 2 rfl) ?_
                refine lv_iconst (v := 3) hx hb dX10_sums_76 (by decide) ?_
                refine lv_icmp_ne (tgt := 87) hx hb dX10_sums_77 (by decide) (fun c_69 => ?_) (fun c_69 => ?_)
                ·
                  have n_c_69 : (a2.toInt : Int) ≠ 3 := c_ne rfl (by decide) c_69
                  have b_a2 : (4 : Int) ≤ a2.toInt ∧ a2.toInt ≤ 4 := r_ne1 b_a2 (by decide : (3 : Int) ≤ (3 : Int32).toInt ∧ (3 : Int32).toInt ≤ 3) n_c_69 (by decide)
                  refine lv_aload_n hx hb dX10_sums_87 rfl (lv_at hl 0 rfl) ?_
                  refine vp_callSi (W.runV (As := []) (rest := [.ref o0]) ⟨hx, hb, hml, hown, hts⟩ (kX10_all l dC dI o0 x_th mwo mim mhi mlu mtp x_td mfv x_sz x_at x_fr x_to x_va x_fk x_fp mfr mwt x_wt x_op x_jo mfg mpl x_dr mtm mfa mqu mmo mwy mwn mma mwi mnu mmv c_wo w_wo ln bs tk lw li b_ln b_bs b_tk b_lw (hw0) (hw1) (hw2) (hw3) (hw4) (hwz)) (cwV 0 hts gX10_sums__X10_all_V277 rfl rfl rfl hd_yX10_all ⟨lel 1 2 rfl, lel 20 47 rfl⟩) ⟨pw_fb, rcv_X10 hK hP (q0 := 0) rfl, (pw_use hP hK hN [0, 1] rfl [0] rfl)⟩ rfl rfl hl.1 rfl (lv_room (Nat.le_of_ble_eq_true rfl)) dX10_sums_88 ⟨lel 0 0 rfl, lel 0 0 rfl⟩) (fun r_70 h_r_70 => ?_)
                  refine lv_aload_n hx hb dX10_sums_91 rfl (lv_at hl 0 rfl) ?_
                  refine vp_callSi (W.runV (As := []) (rest := [.int r_70, .ref o0]) ⟨hx, hb, hml, hown, hts⟩ (kX10_evens l dC dI o0 x_th mwo mim mhi mlu mtp x_td mfv x_sz x_at x_fr x_to x_va x_fk x_fp mfr mwt x_wt x_op x_jo mfg mpl x_dr mtm mfa mqu mmo mwy mwn mma mwi mnu mmv c_wo w_wo ln bs tk lw li b_ln b_bs b_tk b_lw (hw0) (hw1) (hw2) (hw3) (hw4) (hwz)) (cwV 0 hts gX10_sums__X10_evens_V286 rfl rfl rfl hd_yX10_evens ⟨lel 2 2 rfl, lel 40 47 rfl⟩) ⟨pw_fb, rcv_X10 hK hP (q0 := 0) rfl, (pw_use hP hK hN [0, 1] rfl [0] rfl)⟩ rfl rfl hl.1 rfl (lv_room (Nat.le_of_ble_eq_true rfl)) dX10_sums_92 ⟨lel 0 0 rfl, lel 0 0 rfl⟩) (fun r_71 h_r_71 => ?_)
                  refine lv_iconst (v := (-1)) hx hb dX10_sums_95 (by decide) ?_
                  refine lv_ixor hx hb dX10_sums_96 ?_
                  refine lv_topi (fun z_72 e_z_72 => ?_)
                  refine lv_iand hx hb dX10_sums_97 ?_
                  refine lv_topi (fun z_73 e_z_73 => ?_)
                  exact hj_98_65 z_73 _ _ _ ⟨hP, hD, hS, lv_sub hl [0, 1, 2] rfl⟩
                ·
                  have n_c_69 : (a2.toInt : Int) = 3 := c_eq rfl (by decide) c_69
                  have b_a2 : (3 : Int) ≤ a2.toInt ∧ a2.toInt ≤ 3 := r_eq1 b_a2 (by decide : (3 : Int) ≤ (3 : Int32).toInt ∧ (3 : Int32).toInt ≤ 3) n_c_69 (by decide)
                  refine lv_aload_n hx hb dX10_sums_80 rfl (lv_at hl 0 rfl) ?_
                  refine vp_callSi (W.runV (As := []) (rest := [.ref o0]) ⟨hx, hb, hml, hown, hts⟩ (kX10_evens l dC dI o0 x_th mwo mim mhi mlu mtp x_td mfv x_sz x_at x_fr x_to x_va x_fk x_fp mfr mwt x_wt x_op x_jo mfg mpl x_dr mtm mfa mqu mmo mwy mwn mma mwi mnu mmv c_wo w_wo ln bs tk lw li b_ln b_bs b_tk b_lw (hw0) (hw1) (hw2) (hw3) (hw4) (hwz)) (cwV 0 hts gX10_sums__X10_evens_V286 rfl rfl rfl hd_yX10_evens ⟨lel 2 2 rfl, lel 40 47 rfl⟩) ⟨pw_fb, rcv_X10 hK hP (q0 := 0) rfl, (pw_use hP hK hN [0, 1] rfl [0] rfl)⟩ rfl rfl hl.1 rfl (lv_room (Nat.le_of_ble_eq_true rfl)) dX10_sums_81 ⟨lel 0 0 rfl, lel 0 0 rfl⟩) (fun r_74 h_r_74 => ?_)
                  refine lv_goto (tgt := 98) hx hb dX10_sums_84 (by decide) ?_
                  exact hj_98_65 r_74 _ _ _ ⟨hP, hD, hS, lv_sub hl [0, 1, 2] rfl⟩
              ·
                have n_c_68 : (a2.toInt : Int) = 2 := c_eq rfl (by decide) c_68
                have b_a2 : (2 : Int) ≤ a2.toInt ∧ a2.toInt ≤ 2 := r_eq1 b_a2 (by decide : (2 : Int) ≤ (2 : Int32).toInt ∧ (2 : Int32).toInt ≤ 2) n_c_68 (by decide)
                refine lv_aload_n hx hb dX10_sums_68 rfl (lv_at hl 0 rfl) ?_
                refine vp_callSi (W.runV (As := []) (rest := [.ref o0]) ⟨hx, hb, hml, hown, hts⟩ (kX10_lastHalf l dC dI o0 x_th mwo mim mhi mlu mtp x_td mfv x_sz x_at x_fr x_to x_va x_fk x_fp mfr mwt x_wt x_op x_jo mfg mpl x_dr mtm mfa mqu mmo mwy mwn mma mwi mnu mmv c_wo w_wo ln bs tk lw li b_ln b_bs b_tk b_lw (hw0) (hw1) (hw2) (hw3) (hw4) (hwz)) (cwV 0 hts gX10_sums__X10_lastHalf_V283 rfl rfl rfl hd_yX10_lastHalf ⟨lel 2 2 rfl, lel 40 47 rfl⟩) ⟨pw_fb, rcv_X10 hK hP (q0 := 0) rfl, (pw_use hP hK hN [0, 1] rfl [0] rfl)⟩ rfl rfl hl.1 rfl (lv_room (Nat.le_of_ble_eq_true rfl)) dX10_sums_69 ⟨lel 0 0 rfl, lel 0 0 rfl⟩) (fun r_75 h_r_75 => ?_)
                refine lv_goto (tgt := 98) hx hb dX10_sums_72 (by decide) ?_
                exact hj_98_65 r_75 _ _ _ ⟨hP, hD, hS, lv_sub hl [0, 1, 2] rfl⟩
            ·
              have n_c_67 : (a2.toInt : Int) = 1 := c_eq rfl (by decide) c_67
              have b_a2 : (1 : Int) ≤ a2.toInt ∧ a2.toInt ≤ 1 := r_eq1 b_a2 (by decide : (1 : Int) ≤ (1 : Int32).toInt ∧ (1 : Int32).toInt ≤ 1) n_c_67 (by decide)
              refine lv_aload_n hx hb dX10_sums_56 rfl (lv_at hl 0 rfl) ?_
              refine vp_callSi (W.runV (As := []) (rest := [.ref o0]) ⟨hx, hb, hml, hown, hts⟩ (kX10_firstHalf l dC dI o0 x_th mwo mim mhi mlu mtp x_td mfv x_sz x_at x_fr x_to x_va x_fk x_fp mfr mwt x_wt x_op x_jo mfg mpl x_dr mtm mfa mqu mmo mwy mwn mma mwi mnu mmv c_wo w_wo ln bs tk lw li b_ln b_bs b_tk b_lw (hw0) (hw1) (hw2) (hw3) (hw4) (hwz)) (cwV 0 hts gX10_sums__X10_firstHalf_V274 rfl rfl rfl hd_yX10_firstHalf ⟨lel 1 2 rfl, lel 20 47 rfl⟩) ⟨pw_fb, rcv_X10 hK hP (q0 := 0) rfl, (pw_use hP hK hN [0, 1] rfl [0] rfl)⟩ rfl rfl hl.1 rfl (lv_room (Nat.le_of_ble_eq_true rfl)) dX10_sums_57 ⟨lel 0 0 rfl, lel 0 0 rfl⟩) (fun r_76 h_r_76 => ?_)
              refine lv_goto (tgt := 98) hx hb dX10_sums_60 (by decide) ?_
              exact hj_98_65 r_76 _ _ _ ⟨hP, hD, hS, lv_sub hl [0, 1, 2] rfl⟩
          ·
            have n_c_53 : (a2.toInt : Int) = 0 := c_eq rfl (by decide) c_53
            have b_a2 : (0 : Int) ≤ a2.toInt ∧ a2.toInt ≤ 0 := r_eq1 b_a2 (by decide : (0 : Int) ≤ (0 : Int32).toInt ∧ (0 : Int32).toInt ≤ 0) n_c_53 (by decide)
            refine lv_aload_n hx hb dX10_sums_44 rfl (lv_at hl 0 rfl) ?_
            refine vp_callSi (W.runV (As := []) (rest := [.ref o0]) ⟨hx, hb, hml, hown, hts⟩ (kX10_all l dC dI o0 x_th mwo mim mhi mlu mtp x_td mfv x_sz x_at x_fr x_to x_va x_fk x_fp mfr mwt x_wt x_op x_jo mfg mpl x_dr mtm mfa mqu mmo mwy mwn mma mwi mnu mmv c_wo w_wo ln bs tk lw li b_ln b_bs b_tk b_lw (hw0) (hw1) (hw2) (hw3) (hw4) (hwz)) (cwV 0 hts gX10_sums__X10_all_V277 rfl rfl rfl hd_yX10_all ⟨lel 1 2 rfl, lel 20 47 rfl⟩) ⟨pw_fb, rcv_X10 hK hP (q0 := 0) rfl, (pw_use hP hK hN [0, 1] rfl [0] rfl)⟩ rfl rfl hl.1 rfl (lv_room (Nat.le_of_ble_eq_true rfl)) dX10_sums_45 ⟨lel 0 0 rfl, lel 0 0 rfl⟩) (fun r_77 h_r_77 => ?_)
            refine lv_goto (tgt := 98) hx hb dX10_sums_48 (by decide) ?_
            exact hj_98_65 r_77 _ _ _ ⟨hP, hD, hS, lv_sub hl [0, 1, 2] rfl⟩
      ·
        have n_c_52 : (a2.toInt : Int) = 5 := c_eq rfl (by decide) c_52
        have b_a2 : (5 : Int) ≤ a2.toInt ∧ a2.toInt ≤ 5 := r_eq1 b_a2 (by decide : (5 : Int) ≤ (5 : Int32).toInt ∧ (5 : Int32).toInt ≤ 5) n_c_52 (by decide)
        refine lv_aload_n hx hb dX10_sums_34 rfl (lv_at hl 0 rfl) ?_
        refine vp_callSi (W.runV (As := []) (rest := []) ⟨hx, hb, hml, hown, hts⟩ (kX10_unlikeMany l dC dI o0 x_th mwo mim mhi mlu mtp x_td mfv x_sz x_at x_fr x_to x_va x_fk x_fp mfr mwt x_wt x_op x_jo mfg mpl x_dr mtm mfa mqu mmo mwy mwn mma mwi mnu mmv c_wo c_fg w_wo o0_50 ln bs tk lw li b_ln b_bs b_tk b_lw ha_51 (hw0) (hw1) (hw2) (hw3) (hw4) (hwz)) (cwV 0 hts gX10_sums__X10_unlikeMany_V292 rfl rfl rfl hd_yX10_unlikeMany ⟨lel 1 2 rfl, lel 23 47 rfl⟩) ⟨pw_fb, rcv_X10 hK hP (q0 := 0) rfl, (pw_use hP hK hN [0, 1, 2] rfl [0, 1] rfl)⟩ rfl rfl hl.1 rfl (lv_room (Nat.le_of_ble_eq_true rfl)) dX10_sums_35 ⟨lel 0 0 rfl, lel 0 0 rfl⟩) (fun r_78 h_r_78 => ?_)
        have hP9 := hP.sub (ws' := [(o0, .inr (8, [.int x_th, .ref mwo, .ref mim, .ref mhi, .ref mlu, .ref mtp, .int x_td, .ref mfv, .int x_sz, .int x_at, .int x_fr, .int x_to, .int x_va, .int x_fk, .int x_fp, .ref mfr, .ref mwt, .int x_wt, .int x_op, .int x_jo, .ref mfg, .ref mpl, .long x_dr, .ref mtm, .ref mfa, .ref mqu, .ref mmo, .ref mwy, .ref mwn, .ref mma, .ref mwi, .ref mnu, .ref mmv])), (mwo, .inl (c_wo, 1875, .inl w_wo)), (mfg, .inl (c_fg, 12, .inl o0_50))]) [0, 1, 2] rfl
        have hD9 := hD.sub (ws' := [(o0, .inr (8, [.int x_th, .ref mwo, .ref mim, .ref mhi, .ref mlu, .ref mtp, .int x_td, .ref mfv, .int x_sz, .int x_at, .int x_fr, .int x_to, .int x_va, .int x_fk, .int x_fp, .ref mfr, .ref mwt, .int x_wt, .int x_op, .int x_jo, .ref mfg, .ref mpl, .long x_dr, .ref mtm, .ref mfa, .ref mqu, .ref mmo, .ref mwy, .ref mwn, .ref mma, .ref mwi, .ref mnu, .ref mmv])), (mwo, .inl (c_wo, 1875, .inl w_wo)), (mfg, .inl (c_fg, 12, .inl o0_50))]) [0, 1, 2] (by decide) rfl
        have hK9 := hK.sub (tys' := [(c_wo, .int), (c_fg, .int)]) [0, 1] rfl
        exact W.iret (v := r_78) hx hb hr (fun t ht hW => ⟨⟨r_78, (), rfl, trivial, o0_50, ha_51, by rw [ht]; exact hP9, va_K.moved hW.alike hK9, hD9⟩, hS.F ht⟩) hS.2.2 dX10_sums_38
    ·
      have n_c_46 : (r_45.toInt : Int) = 0 := c_eq rfl (by decide) c_46
      have b_r_45 : (0 : Int) ≤ r_45.toInt ∧ r_45.toInt ≤ 0 := r_eq1 b_r_45 (by decide : (0 : Int) ≤ (0 : Int32).toInt ∧ (0 : Int32).toInt ≤ 0) n_c_46 (by decide)
      refine lv_bipush (v := (-2)) hx hb dX10_sums_21 (by decide) ?_
      have hP9 := hP.sub (ws' := [(o0, .inr (8, [.int x_th, .ref mwo, .ref mim, .ref mhi, .ref mlu, .ref mtp, .int x_td, .ref mfv, .int x_sz, .int x_at, .int x_fr, .int x_to, .int x_va, .int x_fk, .int x_fp, .ref mfr, .ref mwt, .int x_wt, .int x_op, .int x_jo, .ref mfg, .ref mpl, .long x_dr, .ref mtm, .ref mfa, .ref mqu, .ref mmo, .ref mwy, .ref mwn, .ref mma, .ref mwi, .ref mnu, .ref mmv])), (mwo, .inl (c_wo, 1875, .inl w_wo)), (mfg, .inl (c_fg, 12, .inl w_fg))]) [0, 1, 2] rfl
      have hD9 := hD.sub (ws' := [(o0, .inr (8, [.int x_th, .ref mwo, .ref mim, .ref mhi, .ref mlu, .ref mtp, .int x_td, .ref mfv, .int x_sz, .int x_at, .int x_fr, .int x_to, .int x_va, .int x_fk, .int x_fp, .ref mfr, .ref mwt, .int x_wt, .int x_op, .int x_jo, .ref mfg, .ref mpl, .long x_dr, .ref mtm, .ref mfa, .ref mqu, .ref mmo, .ref mwy, .ref mwn, .ref mma, .ref mwi, .ref mnu, .ref mmv])), (mwo, .inl (c_wo, 1875, .inl w_wo)), (mfg, .inl (c_fg, 12, .inl w_fg))]) [0, 1, 2] (by decide) rfl
      have hK9 := hK.sub (tys' := [(c_wo, .int), (c_fg, .int)]) [0, 1] rfl
      exact W.iret (v := (-2)) hx hb hr (fun t ht hW => ⟨⟨(-2), (), rfl, trivial, w_fg, ha_mfg, by rw [ht]; exact hP9, va_K.moved hW.alike hK9, hD9⟩, hS.F ht⟩) hS.2.2 dX10_sums_23
