theorem dX10_nowhere_0 : decode cX10_nowhere 0 = .ok (.iconst 0, 1) := by decide +kernel
theorem dX10_nowhere_1 : decode cX10_nowhere 1 = .ok (.istore_n 1, 1) := by decide +kernel
theorem dX10_nowhere_2 : decode cX10_nowhere 2 = .ok (.iload_n 1, 1) := by decide +kernel
theorem dX10_nowhere_3 : decode cX10_nowhere 3 = .ok (.aload_n 0, 1) := by decide +kernel
theorem dX10_nowhere_4 : decode cX10_nowhere 4 = .ok (.getfield 9, 3) := by decide +kernel
theorem dX10_nowhere_7 : decode cX10_nowhere 7 = .ok (.iconst 2, 1) := by decide +kernel
theorem dX10_nowhere_8 : decode cX10_nowhere 8 = .ok (.iaload, 1) := by decide +kernel
theorem dX10_nowhere_9 : decode cX10_nowhere 9 = .ok (.if_icmp .ge 16, 3) := by decide +kernel
theorem dX10_nowhere_12 : decode cX10_nowhere 12 = .ok (.aload_n 0, 1) := by decide +kernel
theorem dX10_nowhere_13 : decode cX10_nowhere 13 = .ok (.getfield 49, 3) := by decide +kernel
theorem dX10_nowhere_16 : decode cX10_nowhere 16 = .ok (.iload_n 1, 1) := by decide +kernel
theorem dX10_nowhere_17 : decode cX10_nowhere 17 = .ok (.iconst (-1), 1) := by decide +kernel
theorem dX10_nowhere_18 : decode cX10_nowhere 18 = .ok (.iastore, 1) := by decide +kernel
theorem dX10_nowhere_19 : decode cX10_nowhere 19 = .ok (.iinc 1 1, 3) := by decide +kernel
theorem dX10_nowhere_22 : decode cX10_nowhere 22 = .ok (.goto (-20), 3) := by decide +kernel
theorem dX10_nowhere_25 : decode cX10_nowhere 25 = .ok (.return_, 1) := by decide +kernel
theorem hd_yX10_nowhere : yX10_nowhere.cls = RX10 ∧ yX10_nowhere.cls ≠ "java/lang/invoke/MethodHandle" ∧ yX10_nowhere.cls ≠ "java/lang/invoke/VarHandle" ∧ (parseMethodDescriptor yX10_nowhere.desc).map (fun d => d.parameters.length) = some 0 := by decide +kernel
def uX10_nowhere : List Cond := List.cons (.code yX10_nowhere cX10_nowhere 2 none) (HAppend.hAppend ([.fieldLink RX10 9 "LuckyTicketModel" "world" "[I", .fieldLink RX10 49 "LuckyTicketModel" "far" "[I"] : List Cond) wsX100)
theorem iX10_nowhere_X10 : ∀ w ∈ wsX100, w ∈ uX10_nowhere := fun _ h => (List.mem_cons_of_mem _ (List.mem_append_right _ h))
theorem guX10_nowhere : GU uX10_nowhere := gu_cons (gu_app (by decide +kernel) gws_X10)
set_option maxHeartbeats 4000000 in
set_option maxRecDepth 100000 in
theorem kX10_nowhere (l : Launch) (dC : Nat → ClassId) (dI : Nat → Nat → Nat) (o0 : Nat) (x_th : Int32) (mwo : Nat) (mim : Nat) (mhi : Nat) (mlu : Nat) (mtp : Nat) (x_td : Int32) (mfv : Nat) (x_sz : Int32) (x_at : Int32) (x_fr : Int32) (x_to : Int32) (x_va : Int32) (x_fk : Int32) (x_fp : Int32) (mfr : Nat) (mwt : Nat) (x_wt : Int32) (x_op : Int32) (x_jo : Int32) (mfg : Nat) (mpl : Nat) (x_dr : Int64) (mtm : Nat) (mfa : Nat) (mqu : Nat) (mmo : Nat) (mwy : Nat) (mwn : Nat) (mma : Nat) (mwi : Nat) (mnu : Nat) (mmv : Nat) (c_wo : ClassId) (c_fa : ClassId) (w_wo : Nat → Int32) (w_fa : Nat → Int32) (ln : Int32) (bs : Int32) (tk : Int32) (lw : Int32) (li : Int32) (sz : Nat) (b_ln : (0 : Int) ≤ ln.toInt ∧ ln.toInt ≤ 12) (b_bs : (0 : Int) ≤ bs.toInt ∧ bs.toInt ≤ 16) (b_tk : (0 : Int) ≤ tk.toInt ∧ tk.toInt ≤ 20000) (b_lw : (0 : Int) ≤ lw.toInt ∧ lw.toInt ≤ 9) (hw0 : w_wo 0 = ln) (hw1 : w_wo 1 = bs) (hw2 : w_wo 2 = tk) (hw3 : w_wo 3 = lw) (hw4 : w_wo 4 = li) (hwz : (ln.toInt = 0 ∧ bs.toInt = 0 ∧ tk.toInt = 0 ∧ lw.toInt = 0) ∨ (1 ≤ ln.toInt ∧ 2 ≤ bs.toInt ∧ 1 ≤ tk.toInt)) : Met l yX10_nowhere uX10_nowhere ({ frames := 0, cells := 0, slots := 0, locals := 0 }) (va_Pc [.ref o0] (hw (dC, dI) vwCl [(o0, .inr (8, [.int x_th, .ref mwo, .ref mim, .ref mhi, .ref mlu, .ref mtp, .int x_td, .ref mfv, .int x_sz, .int x_at, .int x_fr, .int x_to, .int x_va, .int x_fk, .int x_fp, .ref mfr, .ref mwt, .int x_wt, .int x_op, .int x_jo, .ref mfg, .ref mpl, .long x_dr, .ref mtm, .ref mfa, .ref mqu, .ref mmo, .ref mwy, .ref mwn, .ref mma, .ref mwi, .ref mnu, .ref mmv])), (mwo, .inl (c_wo, 1875, .inl w_wo)), (mfa, .inl (c_fa, 20000, .inl w_fa))] [(c_wo, .int), (c_fa, .int)] sz)) (va_Qv (fun (_ : Unit) => True) (fun (_ : Unit) t => ∃ (o0_ : Nat → Int32), va_P (dC, dI) vwCl [(o0, .inr (8, [.int x_th, .ref mwo, .ref mim, .ref mhi, .ref mlu, .ref mtp, .int x_td, .ref mfv, .int x_sz, .int x_at, .int x_fr, .int x_to, .int x_va, .int x_fk, .int x_fp, .ref mfr, .ref mwt, .int x_wt, .int x_op, .int x_jo, .ref mfg, .ref mpl, .long x_dr, .ref mtm, .ref mfa, .ref mqu, .ref mmo, .ref mwy, .ref mwn, .ref mma, .ref mwi, .ref mnu, .ref mmv])), (mwo, .inl (c_wo, 1875, .inl w_wo)), (mfa, .inl (c_fa, 20000, .inl o0_))] t.heap ∧ va_K (dC, dI) vwCl [(c_wo, .int), (c_fa, .int)] t ∧ va_D (va_A [(o0, .inr (8, [.int x_th, .ref mwo, .ref mim, .ref mhi, .ref mlu, .ref mtp, .int x_td, .ref mfv, .int x_sz, .int x_at, .int x_fr, .int x_to, .int x_va, .int x_fk, .int x_fp, .ref mfr, .ref mwt, .int x_wt, .int x_op, .int x_jo, .ref mfg, .ref mpl, .long x_dr, .ref mtm, .ref mfa, .ref mqu, .ref mmo, .ref mwy, .ref mwn, .ref mma, .ref mwi, .ref mnu, .ref mmv])), (mwo, .inl (c_wo, 1875, .inl w_wo)), (mfa, .inl (c_fa, 20000, .inl w_fa))] sz) [(o0, .inr (8, [.int x_th, .ref mwo, .ref mim, .ref mhi, .ref mlu, .ref mtp, .int x_td, .ref mfv, .int x_sz, .int x_at, .int x_fr, .int x_to, .int x_va, .int x_fk, .int x_fp, .ref mfr, .ref mwt, .int x_wt, .int x_op, .int x_jo, .ref mfg, .ref mpl, .long x_dr, .ref mtm, .ref mfa, .ref mqu, .ref mmo, .ref mwy, .ref mwn, .ref mma, .ref mwi, .ref mnu, .ref mmv])), (mwo, .inl (c_wo, 1875, .inl w_wo)), (mfa, .inl (c_fa, 20000, .inl o0_))]) (va_A [(o0, .inr (8, [.int x_th, .ref mwo, .ref mim, .ref mhi, .ref mlu, .ref mtp, .int x_td, .ref mfv, .int x_sz, .int x_at, .int x_fr, .int x_to, .int x_va, .int x_fk, .int x_fp, .ref mfr, .ref mwt, .int x_wt, .int x_op, .int x_jo, .ref mfg, .ref mpl, .long x_dr, .ref mtm, .ref mfa, .ref mqu, .ref mmo, .ref mwy, .ref mwn, .ref mma, .ref mwi, .ref mnu, .ref mmv])), (mwo, .inl (c_wo, 1875, .inl w_wo)), (mfa, .inl (c_fa, 20000, .inl w_fa))] sz)) 0 0 (va_A [(o0, .inr (8, [.int x_th, .ref mwo, .ref mim, .ref mhi, .ref mlu, .ref mtp, .int x_td, .ref mfv, .int x_sz, .int x_at, .int x_fr, .int x_to, .int x_va, .int x_fk, .int x_fp, .ref mfr, .ref mwt, .int x_wt, .int x_op, .int x_jo, .ref mfg, .ref mpl, .long x_dr, .ref mtm, .ref mfa, .ref mqu, .ref mmo, .ref mwy, .ref mwn, .ref mma, .ref mwi, .ref mnu, .ref mmv])), (mwo, .inl (c_wo, 1875, .inl w_wo)), (mfa, .inl (c_fa, 20000, .inl w_fa))] sz) := by
  refine Met.ofW (cc := cX10_nowhere) (maxL := 2) (ret := none) pn_X10 rfl ?_
  intro p e s m args below meth c s₁ B hml hv
  obtain ⟨rfl, hsz, hP, hK, hD0, hN⟩ := hv
  have hx := B.exec
  have hb := B.bytes
  have hr := B.returns
  have hts := atoms_spec (ws := uX10_nowhere) B.pre
  have hown : s.vm.findClass RX10 = some m.cls := hown_of B.named rfl
  have hlocks := B.notSynchronized
  subst hsz
  have hD := hD0.self (sz := s.heap.size)
  generalize hAe : va_A [(o0, .inr (8, [.int x_th, .ref mwo, .ref mim, .ref mhi, .ref mlu, .ref mtp, .int x_td, .ref mfv, .int x_sz, .int x_at, .int x_fr, .int x_to, .int x_va, .int x_fk, .int x_fp, .ref mfr, .ref mwt, .int x_wt, .int x_op, .int x_jo, .ref mfg, .ref mpl, .long x_dr, .ref mtm, .ref mfa, .ref mqu, .ref mmo, .ref mwy, .ref mwn, .ref mma, .ref mwi, .ref mnu, .ref mmv])), (mwo, .inl (c_wo, 1875, .inl w_wo)), (mfa, .inl (c_fa, 20000, .inl w_fa))] s.heap.size = A at hD ⊢
  have hA : ∀ q : Nat, s.heap.size ≤ q → A q := fun q h => by rw [← hAe]; exact Or.inr h
  have hS : va_S A s.heap s.heap [] := va_S.rf
  have hP : va_P (dC, dI) vwCl [(o0, .inr (8, [.int x_th, .ref mwo, .ref mim, .ref mhi, .ref mlu, .ref mtp, .int x_td, .ref mfv, .int x_sz, .int x_at, .int x_fr, .int x_to, .int x_va, .int x_fk, .int x_fp, .ref mfr, .ref mwt, .int x_wt, .int x_op, .int x_jo, .ref mfg, .ref mpl, .long x_dr, .ref mtm, .ref mfa, .ref mqu, .ref mmo, .ref mwy, .ref mwn, .ref mma, .ref mwi, .ref mnu, .ref mmv])), (mwo, .inl (c_wo, 1875, .inl w_wo)), (mfa, .inl (c_fa, 20000, .inl w_fa))] s.heap := hP
  have hl := lv_entry ([.ref o0]) (n := 2) (Nat.le_of_ble_eq_true rfl)
  rw [lg_entry_eq]
  generalize (lg_sl ([.ref o0]) ++ List.replicate (2 - (lg_sl ([.ref o0])).length) Slot.unset).toArray = ls at hl ⊢
  have hl : lv_has ls 2 [(0, .ref o0)] := hl
  refine lv_iconst (v := 0) hx hb dX10_nowhere_0 (by decide) ?_
  refine lv_istore_n (lv' := [(1, .int 0), (0, .ref o0)]) hx hb dX10_nowhere_1 rfl hl (by decide) rfl (fun ls hl => ?_)
  refine loopW (σ := Int32 × (Nat → Int32)) (fun v => (20000 - v.1.toInt).toNat) (fun v H locs ls => ((0 : Int) ≤ v.1.toInt ∧ v.1.toInt ≤ 20000) ∧ va_P (dC, dI) vwCl [(o0, .inr (8, [.int x_th, .ref mwo, .ref mim, .ref mhi, .ref mlu, .ref mtp, .int x_td, .ref mfv, .int x_sz, .int x_at, .int x_fr, .int x_to, .int x_va, .int x_fk, .int x_fp, .ref mfr, .ref mwt, .int x_wt, .int x_op, .int x_jo, .ref mfg, .ref mpl, .long x_dr, .ref mtm, .ref mfa, .ref mqu, .ref mmo, .ref mwy, .ref mwn, .ref mma, .ref mwi, .ref mnu, .ref mmv])), (mwo, .inl (c_wo, 1875, .inl w_wo)), (mfa, .inl (c_fa, 20000, .inl v.2))] H ∧ va_D A [(o0, .inr (8, [.int x_th, .ref mwo, .ref mim, .ref mhi, .ref mlu, .ref mtp, .int x_td, .ref mfv, .int x_sz, .int x_at, .int x_fr, .int x_to, .int x_va, .int x_fk, .int x_fp, .ref mfr, .ref mwt, .int x_wt, .int x_op, .int x_jo, .ref mfg, .ref mpl, .long x_dr, .ref mtm, .ref mfa, .ref mqu, .ref mmo, .ref mwy, .ref mwn, .ref mma, .ref mwi, .ref mnu, .ref mmv])), (mwo, .inl (c_wo, 1875, .inl w_wo)), (mfa, .inl (c_fa, 20000, .inl v.2))] ∧ va_S A s.heap H locs ∧ lv_has ls 2 [(1, .int v.1), (0, .ref o0)]) (fun v H locs ls hI ih_2_104 => ?_) ((0 : Int32), w_fa) ⟨(show (0 : Int) ≤ (0 : Int32).toInt ∧ (0 : Int32).toInt ≤ 20000 from (rg_w (by decide : (0 : Int) ≤ (0 : Int32).toInt ∧ (0 : Int32).toInt ≤ 0) (by decide) (by decide))), hP, hD, hS, lv_sub hl [0, 1] rfl⟩
  obtain ⟨y_59, f_60⟩ := v
  obtain ⟨b_y_59, hP, hD, hS, hl⟩ := hI
  have b_y_59 : (0 : Int) ≤ y_59.toInt ∧ y_59.toInt ≤ 20000 := b_y_59
  have hP : va_P (dC, dI) vwCl [(o0, .inr (8, [.int x_th, .ref mwo, .ref mim, .ref mhi, .ref mlu, .ref mtp, .int x_td, .ref mfv, .int x_sz, .int x_at, .int x_fr, .int x_to, .int x_va, .int x_fk, .int x_fp, .ref mfr, .ref mwt, .int x_wt, .int x_op, .int x_jo, .ref mfg, .ref mpl, .long x_dr, .ref mtm, .ref mfa, .ref mqu, .ref mmo, .ref mwy, .ref mwn, .ref mma, .ref mwi, .ref mnu, .ref mmv])), (mwo, .inl (c_wo, 1875, .inl w_wo)), (mfa, .inl (c_fa, 20000, .inl f_60))] H := hP
  have hD : va_D A [(o0, .inr (8, [.int x_th, .ref mwo, .ref mim, .ref mhi, .ref mlu, .ref mtp, .int x_td, .ref mfv, .int x_sz, .int x_at, .int x_fr, .int x_to, .int x_va, .int x_fk, .int x_fp, .ref mfr, .ref mwt, .int x_wt, .int x_op, .int x_jo, .ref mfg, .ref mpl, .long x_dr, .ref mtm, .ref mfa, .ref mqu, .ref mmo, .ref mwy, .ref mwn, .ref mma, .ref mwi, .ref mnu, .ref mmv])), (mwo, .inl (c_wo, 1875, .inl w_wo)), (mfa, .inl (c_fa, 20000, .inl f_60))] := hD
  have hl : lv_has ls 2 [(1, .int y_59), (0, .ref o0)] := hl
  refine lv_iload_n hx hb dX10_nowhere_2 rfl (lv_at hl 0 rfl) ?_
  refine lv_aload_n hx hb dX10_nowhere_3 rfl (lv_at hl 1 rfl) ?_
  refine va_get (D := (dC, dI)) (ci := 8) (v := .ref mwo) (C := RX10) (T := TX10) (N := 33) hx hb hts iX10_nowhere_X10 hown hK hP 0 rfl rfl 1 (by decide) (hts (.fieldLink RX10 9 "LuckyTicketModel" "world" "[I") (List.mem_of_getElem? (i := 1) rfl)) (fun _ h9 => h9) rfl dX10_nowhere_4 ?_
  refine lv_iconst (v := 2) hx hb dX10_nowhere_7 (by decide) ?_
  refine va_iald hx hb hK hP 1 0 rfl rfl (vp_in_b (by decide : (2 : Int) ≤ (2 : Int32).toInt ∧ (2 : Int32).toInt ≤ 2) (by decide) (by decide)) dX10_nowhere_8 ?_
  refine lv_topi (fun z_105 e_z_105 => ?_)
  obtain rfl : tk = z_105 := (e_z_105.trans hw2).symm
  refine lv_icmp_ge (tgt := 25) hx hb dX10_nowhere_9 (by decide) (fun c_106 => ?_) (fun c_106 => ?_)
  ·
    have n_c_106 : (tk.toInt : Int) ≤ y_59.toInt := c_ge rfl rfl c_106
    have hP9 := hP.sub (ws' := [(o0, .inr (8, [.int x_th, .ref mwo, .ref mim, .ref mhi, .ref mlu, .ref mtp, .int x_td, .ref mfv, .int x_sz, .int x_at, .int x_fr, .int x_to, .int x_va, .int x_fk, .int x_fp, .ref mfr, .ref mwt, .int x_wt, .int x_op, .int x_jo, .ref mfg, .ref mpl, .long x_dr, .ref mtm, .ref mfa, .ref mqu, .ref mmo, .ref mwy, .ref mwn, .ref mma, .ref mwi, .ref mnu, .ref mmv])), (mwo, .inl (c_wo, 1875, .inl w_wo)), (mfa, .inl (c_fa, 20000, .inl f_60))]) [0, 1, 2] rfl
    have hD9 := hD.sub (ws' := [(o0, .inr (8, [.int x_th, .ref mwo, .ref mim, .ref mhi, .ref mlu, .ref mtp, .int x_td, .ref mfv, .int x_sz, .int x_at, .int x_fr, .int x_to, .int x_va, .int x_fk, .int x_fp, .ref mfr, .ref mwt, .int x_wt, .int x_op, .int x_jo, .ref mfg, .ref mpl, .long x_dr, .ref mtm, .ref mfa, .ref mqu, .ref mmo, .ref mwy, .ref mwn, .ref mma, .ref mwi, .ref mnu, .ref mmv])), (mwo, .inl (c_wo, 1875, .inl w_wo)), (mfa, .inl (c_fa, 20000, .inl f_60))]) [0, 1, 2] (by decide) rfl
    have hK9 := hK.sub (tys' := [(c_wo, .int), (c_fa, .int)]) [0, 1] rfl
    exact W.vret hx hb hr (fun t ht hW => ⟨⟨(), rfl, trivial, f_60, by rw [ht]; exact hP9, va_K.moved hW.alike hK9, hD9⟩, hS.F ht⟩) hS.2.2 dX10_nowhere_25
  ·
    have n_c_106 : (y_59.toInt : Int) < tk.toInt := c_nge rfl rfl c_106
    have b_y_59 : (0 : Int) ≤ y_59.toInt ∧ y_59.toInt ≤ 19999 := r_lt1 b_y_59 b_tk n_c_106 (by decide)
    have b_tk : (1 : Int) ≤ tk.toInt ∧ tk.toInt ≤ 20000 := r_lt2 b_y_59 b_tk n_c_106 (by decide)
    refine lv_aload_n hx hb dX10_nowhere_12 rfl (lv_at hl 1 rfl) ?_
    refine va_get (D := (dC, dI)) (ci := 8) (v := .ref mfa) (C := RX10) (T := TX10) (N := 33) hx hb hts iX10_nowhere_X10 hown hK hP 0 rfl rfl 24 (by decide) (hts (.fieldLink RX10 49 "LuckyTicketModel" "far" "[I") (List.mem_of_getElem? (i := 2) rfl)) (fun _ h9 => h9) rfl dX10_nowhere_13 ?_
    refine lv_iload_n hx hb dX10_nowhere_16 rfl (lv_at hl 0 rfl) ?_
    refine lv_iconst (v := (-1)) hx hb dX10_nowhere_17 (by decide) ?_
    refine va_iast hx hb hK hP hD hS 2 1 rfl rfl (vp_in_b b_y_59 (by decide) (by decide)) dX10_nowhere_18 (fun H locs hP hD hS => ?_)
    have hP : va_P (dC, dI) vwCl [(o0, .inr (8, [.int x_th, .ref mwo, .ref mim, .ref mhi, .ref mlu, .ref mtp, .int x_td, .ref mfv, .int x_sz, .int x_at, .int x_fr, .int x_to, .int x_va, .int x_fk, .int x_fp, .ref mfr, .ref mwt, .int x_wt, .int x_op, .int x_jo, .ref mfg, .ref mpl, .long x_dr, .ref mtm, .ref mfa, .ref mqu, .ref mmo, .ref mwy, .ref mwn, .ref mma, .ref mwi, .ref mnu, .ref mmv])), (mwo, .inl (c_wo, 1875, .inl w_wo)), (mfa, .inl (c_fa, 20000, .inl (upd f_60 (y_59 : Int32).toNatClampNeg (-1))))] H := hP
    have hD : va_D A [(o0, .inr (8, [.int x_th, .ref mwo, .ref mim, .ref mhi, .ref mlu, .ref mtp, .int x_td, .ref mfv, .int x_sz, .int x_at, .int x_fr, .int x_to, .int x_va, .int x_fk, .int x_fp, .ref mfr, .ref mwt, .int x_wt, .int x_op, .int x_jo, .ref mfg, .ref mpl, .long x_dr, .ref mtm, .ref mfa, .ref mqu, .ref mmo, .ref mwy, .ref mwn, .ref mma, .ref mwi, .ref mnu, .ref mmv])), (mwo, .inl (c_wo, 1875, .inl w_wo)), (mfa, .inl (c_fa, 20000, .inl (upd f_60 (y_59 : Int32).toNatClampNeg (-1))))] := hD
    generalize (upd f_60 (y_59 : Int32).toNatClampNeg (-1)) = f_107 at hP hD
    have hP : va_P (dC, dI) vwCl [(o0, .inr (8, [.int x_th, .ref mwo, .ref mim, .ref mhi, .ref mlu, .ref mtp, .int x_td, .ref mfv, .int x_sz, .int x_at, .int x_fr, .int x_to, .int x_va, .int x_fk, .int x_fp, .ref mfr, .ref mwt, .int x_wt, .int x_op, .int x_jo, .ref mfg, .ref mpl, .long x_dr, .ref mtm, .ref mfa, .ref mqu, .ref mmo, .ref mwy, .ref mwn, .ref mma, .ref mwi, .ref mnu, .ref mmv])), (mwo, .inl (c_wo, 1875, .inl w_wo)), (mfa, .inl (c_fa, 20000, .inl f_107))] H := hP
    have hD : va_D A [(o0, .inr (8, [.int x_th, .ref mwo, .ref mim, .ref mhi, .ref mlu, .ref mtp, .int x_td, .ref mfv, .int x_sz, .int x_at, .int x_fr, .int x_to, .int x_va, .int x_fk, .int x_fp, .ref mfr, .ref mwt, .int x_wt, .int x_op, .int x_jo, .ref mfg, .ref mpl, .long x_dr, .ref mtm, .ref mfa, .ref mqu, .ref mmo, .ref mwy, .ref mwn, .ref mma, .ref mwi, .ref mnu, .ref mmv])), (mwo, .inl (c_wo, 1875, .inl w_wo)), (mfa, .inl (c_fa, 20000, .inl f_107))] := hD
    obtain ⟨z_108, e_z_108⟩ : ∃ y : Int32, y = y_59 + 1 := ⟨_, rfl⟩
    refine lv_iinc (v := z_108) (lv' := [(1, .int z_108), (0, .ref o0)]) hx hb dX10_nowhere_19 hl (k := 0) rfl (by rw [e_z_108]; rfl) (by decide) rfl (fun ls hl => ?_)
    obtain ⟨q_z_108, b_z_108⟩ := ti_add (lo := 1) (hi := 20000) e_z_108 rfl (by decide : (1 : Int32).toInt = 1) b_y_59 (by decide : (1 : Int) ≤ (1 : Int32).toInt ∧ (1 : Int32).toInt ≤ 1) (by decide)
    refine lv_goto (tgt := 2) hx hb dX10_nowhere_22 (by decide) ?_
    exact ih_2_104 (z_108, f_107) _ _ _ ⟨(show (0 : Int) ≤ z_108.toInt ∧ z_108.toInt ≤ 20000 from (rg_w b_z_108 (by decide) (by decide))), hP, hD, hS, lv_sub hl [0, 1] rfl⟩ (show (20000 - z_108.toInt).toNat < (20000 - y_59.toInt).toNat by omega)
theorem dX10_feed_0 : decode cX10_feed 0 = .ok (.aload_n 0, 1) := by decide +kernel
theorem dX10_feed_1 : decode cX10_feed 1 = .ok (.getfield 97, 3) := by decide +kernel
theorem dX10_feed_4 : decode cX10_feed 4 = .ok (.bipush 20, 2) := by decide +kernel
theorem dX10_feed_6 : decode cX10_feed 6 = .ok (.iadd, 1) := by decide +kernel
theorem dX10_feed_7 : decode cX10_feed 7 = .ok (.sipush 1200, 3) := by decide +kernel
theorem dX10_feed_10 : decode cX10_feed 10 = .ok (.if_icmp .le 5, 3) := by decide +kernel
theorem dX10_feed_13 : decode cX10_feed 13 = .ok (.iconst (-1), 1) := by decide +kernel
theorem dX10_feed_14 : decode cX10_feed 14 = .ok (.ireturn, 1) := by decide +kernel
theorem dX10_feed_15 : decode cX10_feed 15 = .ok (.aload_n 0, 1) := by decide +kernel
theorem dX10_feed_16 : decode cX10_feed 16 = .ok (.getfield 27, 3) := by decide +kernel
theorem dX10_feed_19 : decode cX10_feed 19 = .ok (.iconst 0, 1) := by decide +kernel
theorem dX10_feed_20 : decode cX10_feed 20 = .ok (.iload_n 1, 1) := by decide +kernel
theorem dX10_feed_21 : decode cX10_feed 21 = .ok (.iastore, 1) := by decide +kernel
theorem dX10_feed_22 : decode cX10_feed 22 = .ok (.aload_n 0, 1) := by decide +kernel
theorem dX10_feed_23 : decode cX10_feed 23 = .ok (.getfield 27, 3) := by decide +kernel
theorem dX10_feed_26 : decode cX10_feed 26 = .ok (.iconst 1, 1) := by decide +kernel
theorem dX10_feed_27 : decode cX10_feed 27 = .ok (.iload_n 2, 1) := by decide +kernel
theorem dX10_feed_28 : decode cX10_feed 28 = .ok (.iastore, 1) := by decide +kernel
theorem dX10_feed_29 : decode cX10_feed 29 = .ok (.aload_n 0, 1) := by decide +kernel
theorem dX10_feed_30 : decode cX10_feed 30 = .ok (.getfield 27, 3) := by decide +kernel
theorem dX10_feed_33 : decode cX10_feed 33 = .ok (.iconst 2, 1) := by decide +kernel
theorem dX10_feed_34 : decode cX10_feed 34 = .ok (.iload_n 3, 1) := by decide +kernel
theorem dX10_feed_35 : decode cX10_feed 35 = .ok (.iastore, 1) := by decide +kernel
theorem dX10_feed_36 : decode cX10_feed 36 = .ok (.aload_n 0, 1) := by decide +kernel
theorem dX10_feed_37 : decode cX10_feed 37 = .ok (.getfield 27, 3) := by decide +kernel
theorem dX10_feed_40 : decode cX10_feed 40 = .ok (.iconst 3, 1) := by decide +kernel
theorem dX10_feed_41 : decode cX10_feed 41 = .ok (.iload 4, 2) := by decide +kernel
theorem dX10_feed_43 : decode cX10_feed 43 = .ok (.iastore, 1) := by decide +kernel
theorem dX10_feed_44 : decode cX10_feed 44 = .ok (.aload_n 0, 1) := by decide +kernel
theorem dX10_feed_45 : decode cX10_feed 45 = .ok (.getfield 27, 3) := by decide +kernel
theorem dX10_feed_48 : decode cX10_feed 48 = .ok (.iconst 4, 1) := by decide +kernel
theorem dX10_feed_49 : decode cX10_feed 49 = .ok (.iload 5, 2) := by decide +kernel
theorem dX10_feed_51 : decode cX10_feed 51 = .ok (.iastore, 1) := by decide +kernel
theorem dX10_feed_52 : decode cX10_feed 52 = .ok (.iconst 0, 1) := by decide +kernel
theorem dX10_feed_53 : decode cX10_feed 53 = .ok (.istore 6, 2) := by decide +kernel
theorem dX10_feed_55 : decode cX10_feed 55 = .ok (.iload 6, 2) := by decide +kernel
theorem dX10_feed_57 : decode cX10_feed 57 = .ok (.bipush 20, 2) := by decide +kernel
theorem dX10_feed_59 : decode cX10_feed 59 = .ok (.if_icmp .ge 42, 3) := by decide +kernel
theorem dX10_feed_62 : decode cX10_feed 62 = .ok (.aload_n 0, 1) := by decide +kernel
theorem dX10_feed_63 : decode cX10_feed 63 = .ok (.getfield 23, 3) := by decide +kernel
theorem dX10_feed_66 : decode cX10_feed 66 = .ok (.aload_n 0, 1) := by decide +kernel
theorem dX10_feed_67 : decode cX10_feed 67 = .ok (.getfield 97, 3) := by decide +kernel
theorem dX10_feed_70 : decode cX10_feed 70 = .ok (.iload 6, 2) := by decide +kernel
theorem dX10_feed_72 : decode cX10_feed 72 = .ok (.iadd, 1) := by decide +kernel
theorem dX10_feed_73 : decode cX10_feed 73 = .ok (.aload_n 0, 1) := by decide +kernel
theorem dX10_feed_74 : decode cX10_feed 74 = .ok (.getfield 27, 3) := by decide +kernel
theorem dX10_feed_77 : decode cX10_feed 77 = .ok (.iload 6, 2) := by decide +kernel
theorem dX10_feed_79 : decode cX10_feed 79 = .ok (.iconst 4, 1) := by decide +kernel
theorem dX10_feed_80 : decode cX10_feed 80 = .ok (.idiv, 1) := by decide +kernel
theorem dX10_feed_81 : decode cX10_feed 81 = .ok (.iaload, 1) := by decide +kernel
theorem dX10_feed_82 : decode cX10_feed 82 = .ok (.bipush 24, 2) := by decide +kernel
theorem dX10_feed_84 : decode cX10_feed 84 = .ok (.bipush 8, 2) := by decide +kernel
theorem dX10_feed_86 : decode cX10_feed 86 = .ok (.iload 6, 2) := by decide +kernel
theorem dX10_feed_88 : decode cX10_feed 88 = .ok (.iconst 4, 1) := by decide +kernel
theorem dX10_feed_89 : decode cX10_feed 89 = .ok (.irem, 1) := by decide +kernel
theorem dX10_feed_90 : decode cX10_feed 90 = .ok (.imul, 1) := by decide +kernel
theorem dX10_feed_91 : decode cX10_feed 91 = .ok (.isub, 1) := by decide +kernel
theorem dX10_feed_92 : decode cX10_feed 92 = .ok (.ishr, 1) := by decide +kernel
theorem dX10_feed_93 : decode cX10_feed 93 = .ok (.i2b, 1) := by decide +kernel
theorem dX10_feed_94 : decode cX10_feed 94 = .ok (.bastore, 1) := by decide +kernel
theorem dX10_feed_95 : decode cX10_feed 95 = .ok (.iinc 6 1, 3) := by decide +kernel
theorem dX10_feed_98 : decode cX10_feed 98 = .ok (.goto (-43), 3) := by decide +kernel
theorem dX10_feed_101 : decode cX10_feed 101 = .ok (.aload_n 0, 1) := by decide +kernel
theorem dX10_feed_102 : decode cX10_feed 102 = .ok (.dup, 1) := by decide +kernel
theorem dX10_feed_103 : decode cX10_feed 103 = .ok (.getfield 97, 3) := by decide +kernel
theorem dX10_feed_106 : decode cX10_feed 106 = .ok (.bipush 20, 2) := by decide +kernel
theorem dX10_feed_108 : decode cX10_feed 108 = .ok (.iadd, 1) := by decide +kernel
theorem dX10_feed_109 : decode cX10_feed 109 = .ok (.putfield 97, 3) := by decide +kernel
theorem dX10_feed_112 : decode cX10_feed 112 = .ok (.aload_n 0, 1) := by decide +kernel
theorem dX10_feed_113 : decode cX10_feed 113 = .ok (.getfield 97, 3) := by decide +kernel
theorem dX10_feed_116 : decode cX10_feed 116 = .ok (.ireturn, 1) := by decide +kernel
theorem hd_yX10_feed : yX10_feed.cls = RX10 ∧ yX10_feed.cls ≠ "java/lang/invoke/MethodHandle" ∧ yX10_feed.cls ≠ "java/lang/invoke/VarHandle" ∧ (parseMethodDescriptor yX10_feed.desc).map (fun d => d.parameters.length) = some 5 := by decide +kernel
def uX10_feed : List Cond := List.cons (.code yX10_feed cX10_feed 7 (some .int)) (HAppend.hAppend ([.fieldLink RX10 97 "LuckyTicketModel" "taped" "I", .fieldLink RX10 27 "LuckyTicketModel" "five" "[I", .fieldLink RX10 23 "LuckyTicketModel" "tape" "[B"] : List Cond) wsX100)
theorem iX10_feed_X10 : ∀ w ∈ wsX100, w ∈ uX10_feed := fun _ h => (List.mem_cons_of_mem _ (List.mem_append_right _ h))
theorem guX10_feed : GU uX10_feed := gu_cons (gu_app (by decide +kernel) gws_X10)
set_option maxHeartbeats 4000000 in
set_option maxRecDepth 100000 in
theorem kX10_feed (l : Launch) (dC : Nat → ClassId) (dI : Nat → Nat → Nat) (o0 : Nat) (x_th : Int32) (mwo : Nat) (mim : Nat) (mhi : Nat) (mlu : Nat) (mtp : Nat) (x_td : Int32) (mfv : Nat) (x_sz : Int32) (x_at : Int32) (x_fr : Int32) (x_to : Int32) (x_va : Int32) (x_fk : Int32) (x_fp : Int32) (mfr : Nat) (mwt : Nat) (x_wt : Int32) (x_op : Int32) (x_jo : Int32) (mfg : Nat) (mpl : Nat) (x_dr : Int64) (mtm : Nat) (mfa : Nat) (mqu : Nat) (mmo : Nat) (mwy : Nat) (mwn : Nat) (mma : Nat) (mwi : Nat) (mnu : Nat) (mmv : Nat) (c_tp : ClassId) (c_fv : ClassId) (w_tp : Nat → Int32) (w_fv : Nat → Int32) (a1 : Int32) (a2 : Int32) (a3 : Int32) (a4 : Int32) (a5 : Int32) (sz : Nat) (b_x_td : (0 : Int) ≤ x_td.toInt ∧ x_td.toInt ≤ 1200) : Met l yX10_feed uX10_feed ({ frames := 0, cells := 0, slots := 0, locals := 0 }) (va_Pc [.ref o0, .int a1, .int a2, .int a3, .int a4, .int a5] (hw (dC, dI) vwCl [(o0, .inr (8, [.int x_th, .ref mwo, .ref mim, .ref mhi, .ref mlu, .ref mtp, .int x_td, .ref mfv, .int x_sz, .int x_at, .int x_fr, .int x_to, .int x_va, .int x_fk, .int x_fp, .ref mfr, .ref mwt, .int x_wt, .int x_op, .int x_jo, .ref mfg, .ref mpl, .long x_dr, .ref mtm, .ref mfa, .ref mqu, .ref mmo, .ref mwy, .ref mwn, .ref mma, .ref mwi, .ref mnu, .ref mmv])), (mtp, .inl (c_tp, 1200, .inl w_tp)), (mfv, .inl (c_fv, 5, .inl w_fv))] [(c_tp, .byte), (c_fv, .int)] sz)) (va_Qi (fun (r : Int32) (_ : Unit) => ((-1 : Int) ≤ r.toInt ∧ r.toInt ≤ 1200)) (fun (_ : Unit) t => ∃ (o0_ : Int32) (o1_ : Nat → Int32) (o2_ : Nat → Int32), ((20 : Int) ≤ o0_.toInt ∧ o0_.toInt ≤ 1200) ∧ va_P (dC, dI) vwCl [(o0, .inr (8, [.int x_th, .ref mwo, .ref mim, .ref mhi, .ref mlu, .ref mtp, .int o0_, .ref mfv, .int x_sz, .int x_at, .int x_fr, .int x_to, .int x_va, .int x_fk, .int x_fp, .ref mfr, .ref mwt, .int x_wt, .int x_op, .int x_jo, .ref mfg, .ref mpl, .long x_dr, .ref mtm, .ref mfa, .ref mqu, .ref mmo, .ref mwy, .ref mwn, .ref mma, .ref mwi, .ref mnu, .ref mmv])), (mtp, .inl (c_tp, 1200, .inl o1_)), (mfv, .inl (c_fv, 5, .inl o2_))] t.heap ∧ va_K (dC, dI) vwCl [(c_tp, .byte), (c_fv, .int)] t ∧ va_D (va_A [(o0, .inr (8, [.int x_th, .ref mwo, .ref mim, .ref mhi, .ref mlu, .ref mtp, .int x_td, .ref mfv, .int x_sz, .int x_at, .int x_fr, .int x_to, .int x_va, .int x_fk, .int x_fp, .ref mfr, .ref mwt, .int x_wt, .int x_op, .int x_jo, .ref mfg, .ref mpl, .long x_dr, .ref mtm, .ref mfa, .ref mqu, .ref mmo, .ref mwy, .ref mwn, .ref mma, .ref mwi, .ref mnu, .ref mmv])), (mtp, .inl (c_tp, 1200, .inl w_tp)), (mfv, .inl (c_fv, 5, .inl w_fv))] sz) [(o0, .inr (8, [.int x_th, .ref mwo, .ref mim, .ref mhi, .ref mlu, .ref mtp, .int o0_, .ref mfv, .int x_sz, .int x_at, .int x_fr, .int x_to, .int x_va, .int x_fk, .int x_fp, .ref mfr, .ref mwt, .int x_wt, .int x_op, .int x_jo, .ref mfg, .ref mpl, .long x_dr, .ref mtm, .ref mfa, .ref mqu, .ref mmo, .ref mwy, .ref mwn, .ref mma, .ref mwi, .ref mnu, .ref mmv])), (mtp, .inl (c_tp, 1200, .inl o1_)), (mfv, .inl (c_fv, 5, .inl o2_))]) (va_A [(o0, .inr (8, [.int x_th, .ref mwo, .ref mim, .ref mhi, .ref mlu, .ref mtp, .int x_td, .ref mfv, .int x_sz, .int x_at, .int x_fr, .int x_to, .int x_va, .int x_fk, .int x_fp, .ref mfr, .ref mwt, .int x_wt, .int x_op, .int x_jo, .ref mfg, .ref mpl, .long x_dr, .ref mtm, .ref mfa, .ref mqu, .ref mmo, .ref mwy, .ref mwn, .ref mma, .ref mwi, .ref mnu, .ref mmv])), (mtp, .inl (c_tp, 1200, .inl w_tp)), (mfv, .inl (c_fv, 5, .inl w_fv))] sz)) 0 0 (va_A [(o0, .inr (8, [.int x_th, .ref mwo, .ref mim, .ref mhi, .ref mlu, .ref mtp, .int x_td, .ref mfv, .int x_sz, .int x_at, .int x_fr, .int x_to, .int x_va, .int x_fk, .int x_fp, .ref mfr, .ref mwt, .int x_wt, .int x_op, .int x_jo, .ref mfg, .ref mpl, .long x_dr, .ref mtm, .ref mfa, .ref mqu, .ref mmo, .ref mwy, .ref mwn, .ref mma, .ref mwi, .ref mnu, .ref mmv])), (mtp, .inl (c_tp, 1200, .inl w_tp)), (mfv, .inl (c_fv, 5, .inl w_fv))] sz) := by
  refine Met.ofW (cc := cX10_feed) (maxL := 7) (ret := (some .int)) pn_X10 rfl ?_
  intro p e s m args below meth c s₁ B hml hv
  obtain ⟨rfl, hsz, hP, hK, hD0, hN⟩ := hv
  have hx := B.exec
  have hb := B.bytes
  have hr := B.returns
  have hts := atoms_spec (ws := uX10_feed) B.pre
  have hown : s.vm.findClass RX10 = some m.cls := hown_of B.named rfl
  have hlocks := B.notSynchronized
  subst hsz
  have hD := hD0.self (sz := s.heap.size)
  generalize hAe : va_A [(o0, .inr (8, [.int x_th, .ref mwo, .ref mim, .ref mhi, .ref mlu, .ref mtp, .int x_td, .ref mfv, .int x_sz, .int x_at, .int x_fr, .int x_to, .int x_va, .int x_fk, .int x_fp, .ref mfr, .ref mwt, .int x_wt, .int x_op, .int x_jo, .ref mfg, .ref mpl, .long x_dr, .ref mtm, .ref mfa, .ref mqu, .ref mmo, .ref mwy, .ref mwn, .ref mma, .ref mwi, .ref mnu, .ref mmv])), (mtp, .inl (c_tp, 1200, .inl w_tp)), (mfv, .inl (c_fv, 5, .inl w_fv))] s.heap.size = A at hD ⊢
  have hA : ∀ q : Nat, s.heap.size ≤ q → A q := fun q h => by rw [← hAe]; exact Or.inr h
  have hS : va_S A s.heap s.heap [] := va_S.rf
  have hP : va_P (dC, dI) vwCl [(o0, .inr (8, [.int x_th, .ref mwo, .ref mim, .ref mhi, .ref mlu, .ref mtp, .int x_td, .ref mfv, .int x_sz, .int x_at, .int x_fr, .int x_to, .int x_va, .int x_fk, .int x_fp, .ref mfr, .ref mwt, .int x_wt, .int x_op, .int x_jo, .ref mfg, .ref mpl, .long x_dr, .ref mtm, .ref mfa, .ref mqu, .ref mmo, .ref mwy, .ref mwn, .ref mma, .ref mwi, .ref mnu, .ref mmv])), (mtp, .inl (c_tp, 1200, .inl w_tp)), (mfv, .inl (c_fv, 5, .inl w_fv))] s.heap := hP
  have hl := lv_entry ([.ref o0, .int a1, .int a2, .int a3, .int a4, .int a5]) (n := 7) (Nat.le_of_ble_eq_true rfl)
  rw [lg_entry_eq]
  generalize (lg_sl ([.ref o0, .int a1, .int a2, .int a3, .int a4, .int a5]) ++ List.replicate (7 - (lg_sl ([.ref o0, .int a1, .int a2, .int a3, .int a4, .int a5])).length) Slot.unset).toArray = ls at hl ⊢
  have hl : lv_has ls 7 [(0, .ref o0), (1, .int a1), (2, .int a2), (3, .int a3), (4, .int a4), (5, .int a5)] := hl
  refine lv_aload_n hx hb dX10_feed_0 rfl (lv_at hl 0 rfl) ?_
  refine va_get (D := (dC, dI)) (ci := 8) (v := .int x_td) (C := RX10) (T := TX10) (N := 33) hx hb hts iX10_feed_X10 hown hK hP 0 rfl rfl 6 (by decide) (hts (.fieldLink RX10 97 "LuckyTicketModel" "taped" "I") (List.mem_of_getElem? (i := 1) rfl)) (fun _ h9 => h9) rfl dX10_feed_1 ?_
  refine lv_bipush (v := 20) hx hb dX10_feed_4 (by decide) ?_
  refine lv_iadd hx hb dX10_feed_6 ?_
  refine lv_topi (fun z_131 e_z_131 => ?_)
  obtain ⟨q_z_131, b_z_131⟩ := ti_add (lo := 20) (hi := 1220) e_z_131 rfl (by decide : (20 : Int32).toInt = 20) b_x_td (by decide : (20 : Int) ≤ (20 : Int32).toInt ∧ (20 : Int32).toInt ≤ 20) (by decide)
  refine lv_sipush (v := 1200) hx hb dX10_feed_7 (by decide) ?_
  refine lv_icmp_le (tgt := 15) hx hb dX10_feed_10 (by decide) (fun c_132 => ?_) (fun c_132 => ?_)
  ·
    have n_c_132 : (z_131.toInt : Int) ≤ 1200 := c_le rfl (by decide) c_132
    have b_z_131 : (20 : Int) ≤ z_131.toInt ∧ z_131.toInt ≤ 1200 := r_le1 b_z_131 (by decide : (1200 : Int) ≤ (1200 : Int32).toInt ∧ (1200 : Int32).toInt ≤ 1200) n_c_132 (by decide)
    have b_x_td : (0 : Int) ≤ x_td.toInt ∧ x_td.toInt ≤ 1180 := by
      have q0 := b_z_131; have q1 := q_z_131; have q2 := b_x_td; have q3 := (by decide : (20 : Int) ≤ (20 : Int32).toInt ∧ (20 : Int32).toInt ≤ 20); omega
    refine lv_aload_n hx hb dX10_feed_15 rfl (lv_at hl 0 rfl) ?_
    refine va_get (D := (dC, dI)) (ci := 8) (v := .ref mfv) (C := RX10) (T := TX10) (N := 33) hx hb hts iX10_feed_X10 hown hK hP 0 rfl rfl 7 (by decide) (hts (.fieldLink RX10 27 "LuckyTicketModel" "five" "[I") (List.mem_of_getElem? (i := 2) rfl)) (fun _ h9 => h9) rfl dX10_feed_16 ?_
    refine lv_iconst (v := 0) hx hb dX10_feed_19 (by decide) ?_
    refine lv_iload_n hx hb dX10_feed_20 rfl (lv_at hl 1 rfl) ?_
    refine va_iast hx hb hK hP hD hS 2 1 rfl rfl (vp_in_b (by decide : (0 : Int) ≤ (0 : Int32).toInt ∧ (0 : Int32).toInt ≤ 0) (by decide) (by decide)) dX10_feed_21 (fun H locs hP hD hS => ?_)
    have hP : va_P (dC, dI) vwCl [(o0, .inr (8, [.int x_th, .ref mwo, .ref mim, .ref mhi, .ref mlu, .ref mtp, .int x_td, .ref mfv, .int x_sz, .int x_at, .int x_fr, .int x_to, .int x_va, .int x_fk, .int x_fp, .ref mfr, .ref mwt, .int x_wt, .int x_op, .int x_jo, .ref mfg, .ref mpl, .long x_dr, .ref mtm, .ref mfa, .ref mqu, .ref mmo, .ref mwy, .ref mwn, .ref mma, .ref mwi, .ref mnu, .ref mmv])), (mtp, .inl (c_tp, 1200, .inl w_tp)), (mfv, .inl (c_fv, 5, .inl (upd w_fv (0 : Int32).toNatClampNeg a1)))] H := hP
    have hD : va_D A [(o0, .inr (8, [.int x_th, .ref mwo, .ref mim, .ref mhi, .ref mlu, .ref mtp, .int x_td, .ref mfv, .int x_sz, .int x_at, .int x_fr, .int x_to, .int x_va, .int x_fk, .int x_fp, .ref mfr, .ref mwt, .int x_wt, .int x_op, .int x_jo, .ref mfg, .ref mpl, .long x_dr, .ref mtm, .ref mfa, .ref mqu, .ref mmo, .ref mwy, .ref mwn, .ref mma, .ref mwi, .ref mnu, .ref mmv])), (mtp, .inl (c_tp, 1200, .inl w_tp)), (mfv, .inl (c_fv, 5, .inl (upd w_fv (0 : Int32).toNatClampNeg a1)))] := hD
    generalize (upd w_fv (0 : Int32).toNatClampNeg a1) = f_133 at hP hD
    have hP : va_P (dC, dI) vwCl [(o0, .inr (8, [.int x_th, .ref mwo, .ref mim, .ref mhi, .ref mlu, .ref mtp, .int x_td, .ref mfv, .int x_sz, .int x_at, .int x_fr, .int x_to, .int x_va, .int x_fk, .int x_fp, .ref mfr, .ref mwt, .int x_wt, .int x_op, .int x_jo, .ref mfg, .ref mpl, .long x_dr, .ref mtm, .ref mfa, .ref mqu, .ref mmo, .ref mwy, .ref mwn, .ref mma, .ref mwi, .ref mnu, .ref mmv])), (mtp, .inl (c_tp, 1200, .inl w_tp)), (mfv, .inl (c_fv, 5, .inl f_133))] H := hP
    have hD : va_D A [(o0, .inr (8, [.int x_th, .ref mwo, .ref mim, .ref mhi, .ref mlu, .ref mtp, .int x_td, .ref mfv, .int x_sz, .int x_at, .int x_fr, .int x_to, .int x_va, .int x_fk, .int x_fp, .ref mfr, .ref mwt, .int x_wt, .int x_op, .int x_jo, .ref mfg, .ref mpl, .long x_dr, .ref mtm, .ref mfa, .ref mqu, .ref mmo, .ref mwy, .ref mwn, .ref mma, .ref mwi, .ref mnu, .ref mmv])), (mtp, .inl (c_tp, 1200, .inl w_tp)), (mfv, .inl (c_fv, 5, .inl f_133))] := hD
    refine lv_aload_n hx hb dX10_feed_22 rfl (lv_at hl 0 rfl) ?_
    refine va_get (D := (dC, dI)) (ci := 8) (v := .ref mfv) (C := RX10) (T := TX10) (N := 33) hx hb hts iX10_feed_X10 hown hK hP 0 rfl rfl 7 (by decide) (hts (.fieldLink RX10 27 "LuckyTicketModel" "five" "[I") (List.mem_of_getElem? (i := 2) rfl)) (fun _ h9 => h9) rfl dX10_feed_23 ?_
    refine lv_iconst (v := 1) hx hb dX10_feed_26 (by decide) ?_
    refine lv_iload_n hx hb dX10_feed_27 rfl (lv_at hl 2 rfl) ?_
    refine va_iast hx hb hK hP hD hS 2 1 rfl rfl (vp_in_b (by decide : (1 : Int) ≤ (1 : Int32).toInt ∧ (1 : Int32).toInt ≤ 1) (by decide) (by decide)) dX10_feed_28 (fun H locs hP hD hS => ?_)
    have hP : va_P (dC, dI) vwCl [(o0, .inr (8, [.int x_th, .ref mwo, .ref mim, .ref mhi, .ref mlu, .ref mtp, .int x_td, .ref mfv, .int x_sz, .int x_at, .int x_fr, .int x_to, .int x_va, .int x_fk, .int x_fp, .ref mfr, .ref mwt, .int x_wt, .int x_op, .int x_jo, .ref mfg, .ref mpl, .long x_dr, .ref mtm, .ref mfa, .ref mqu, .ref mmo, .ref mwy, .ref mwn, .ref mma, .ref mwi, .ref mnu, .ref mmv])), (mtp, .inl (c_tp, 1200, .inl w_tp)), (mfv, .inl (c_fv, 5, .inl (upd f_133 (1 : Int32).toNatClampNeg a2)))] H := hP
    have hD : va_D A [(o0, .inr (8, [.int x_th, .ref mwo, .ref mim, .ref mhi, .ref mlu, .ref mtp, .int x_td, .ref mfv, .int x_sz, .int x_at, .int x_fr, .int x_to, .int x_va, .int x_fk, .int x_fp, .ref mfr, .ref mwt, .int x_wt, .int x_op, .int x_jo, .ref mfg, .ref mpl, .long x_dr, .ref mtm, .ref mfa, .ref mqu, .ref mmo, .ref mwy, .ref mwn, .ref mma, .ref mwi, .ref mnu, .ref mmv])), (mtp, .inl (c_tp, 1200, .inl w_tp)), (mfv, .inl (c_fv, 5, .inl (upd f_133 (1 : Int32).toNatClampNeg a2)))] := hD
    generalize (upd f_133 (1 : Int32).toNatClampNeg a2) = f_134 at hP hD
    have hP : va_P (dC, dI) vwCl [(o0, .inr (8, [.int x_th, .ref mwo, .ref mim, .ref mhi, .ref mlu, .ref mtp, .int x_td, .ref mfv, .int x_sz, .int x_at, .int x_fr, .int x_to, .int x_va, .int x_fk, .int x_fp, .ref mfr, .ref mwt, .int x_wt, .int x_op, .int x_jo, .ref mfg, .ref mpl, .long x_dr, .ref mtm, .ref mfa, .ref mqu, .ref mmo, .ref mwy, .ref mwn, .ref mma, .ref mwi, .ref mnu, .ref mmv])), (mtp, .inl (c_tp, 1200, .inl w_tp)), (mfv, .inl (c_fv, 5, .inl f_134))] H := hP
    have hD : va_D A [(o0, .inr (8, [.int x_th, .ref mwo, .ref mim, .ref mhi, .ref mlu, .ref mtp, .int x_td, .ref mfv, .int x_sz, .int x_at, .int x_fr, .int x_to, .int x_va, .int x_fk, .int x_fp, .ref mfr, .ref mwt, .int x_wt, .int x_op, .int x_jo, .ref mfg, .ref mpl, .long x_dr, .ref mtm, .ref mfa, .ref mqu, .ref mmo, .ref mwy, .ref mwn, .ref mma, .ref mwi, .ref mnu, .ref mmv])), (mtp, .inl (c_tp, 1200, .inl w_tp)), (mfv, .inl (c_fv, 5, .inl f_134))] := hD
    refine lv_aload_n hx hb dX10_feed_29 rfl (lv_at hl 0 rfl) ?_
    refine va_get (D := (dC, dI)) (ci := 8) (v := .ref mfv) (C := RX10) (T := TX10) (N := 33) hx hb hts iX10_feed_X10 hown hK hP 0 rfl rfl 7 (by decide) (hts (.fieldLink RX10 27 "LuckyTicketModel" "five" "[I") (List.mem_of_getElem? (i := 2) rfl)) (fun _ h9 => h9) rfl dX10_feed_30 ?_
    refine lv_iconst (v := 2) hx hb dX10_feed_33 (by decide) ?_
    refine lv_iload_n hx hb dX10_feed_34 rfl (lv_at hl 3 rfl) ?_
    refine va_iast hx hb hK hP hD hS 2 1 rfl rfl (vp_in_b (by decide : (2 : Int) ≤ (2 : Int32).toInt ∧ (2 : Int32).toInt ≤ 2) (by decide) (by decide)) dX10_feed_35 (fun H locs hP hD hS => ?_)
    have hP : va_P (dC, dI) vwCl [(o0, .inr (8, [.int x_th, .ref mwo, .ref mim, .ref mhi, .ref mlu, .ref mtp, .int x_td, .ref mfv, .int x_sz, .int x_at, .int x_fr, .int x_to, .int x_va, .int x_fk, .int x_fp, .ref mfr, .ref mwt, .int x_wt, .int x_op, .int x_jo, .ref mfg, .ref mpl, .long x_dr, .ref mtm, .ref mfa, .ref mqu, .ref mmo, .ref mwy, .ref mwn, .ref mma, .ref mwi, .ref mnu, .ref mmv])), (mtp, .inl (c_tp, 1200, .inl w_tp)), (mfv, .inl (c_fv, 5, .inl (upd f_134 (2 : Int32).toNatClampNeg a3)))] H := hP
    have hD : va_D A [(o0, .inr (8, [.int x_th, .ref mwo, .ref mim, .ref mhi, .ref mlu, .ref mtp, .int x_td, .ref mfv, .int x_sz, .int x_at, .int x_fr, .int x_to, .int x_va, .int x_fk, .int x_fp, .ref mfr, .ref mwt, .int x_wt, .int x_op, .int x_jo, .ref mfg, .ref mpl, .long x_dr, .ref mtm, .ref mfa, .ref mqu, .ref mmo, .ref mwy, .ref mwn, .ref mma, .ref mwi, .ref mnu, .ref mmv])), (mtp, .inl (c_tp, 1200, .inl w_tp)), (mfv, .inl (c_fv, 5, .inl (upd f_134 (2 : Int32).toNatClampNeg a3)))] := hD
    generalize (upd f_134 (2 : Int32).toNatClampNeg a3) = f_135 at hP hD
    have hP : va_P (dC, dI) vwCl [(o0, .inr (8, [.int x_th, .ref mwo, .ref mim, .ref mhi, .ref mlu, .ref mtp, .int x_td, .ref mfv, .int x_sz, .int x_at, .int x_fr, .int x_to, .int x_va, .int x_fk, .int x_fp, .ref mfr, .ref mwt, .int x_wt, .int x_op, .int x_jo, .ref mfg, .ref mpl, .long x_dr, .ref mtm, .ref mfa, .ref mqu, .ref mmo, .ref mwy, .ref mwn, .ref mma, .ref mwi, .ref mnu, .ref mmv])), (mtp, .inl (c_tp, 1200, .inl w_tp)), (mfv, .inl (c_fv, 5, .inl f_135))] H := hP
    have hD : va_D A [(o0, .inr (8, [.int x_th, .ref mwo, .ref mim, .ref mhi, .ref mlu, .ref mtp, .int x_td, .ref mfv, .int x_sz, .int x_at, .int x_fr, .int x_to, .int x_va, .int x_fk, .int x_fp, .ref mfr, .ref mwt, .int x_wt, .int x_op, .int x_jo, .ref mfg, .ref mpl, .long x_dr, .ref mtm, .ref mfa, .ref mqu, .ref mmo, .ref mwy, .ref mwn, .ref mma, .ref mwi, .ref mnu, .ref mmv])), (mtp, .inl (c_tp, 1200, .inl w_tp)), (mfv, .inl (c_fv, 5, .inl f_135))] := hD
    refine lv_aload_n hx hb dX10_feed_36 rfl (lv_at hl 0 rfl) ?_
    refine va_get (D := (dC, dI)) (ci := 8) (v := .ref mfv) (C := RX10) (T := TX10) (N := 33) hx hb hts iX10_feed_X10 hown hK hP 0 rfl rfl 7 (by decide) (hts (.fieldLink RX10 27 "LuckyTicketModel" "five" "[I") (List.mem_of_getElem? (i := 2) rfl)) (fun _ h9 => h9) rfl dX10_feed_37 ?_
    refine lv_iconst (v := 3) hx hb dX10_feed_40 (by decide) ?_
    refine lv_iload hx hb dX10_feed_41 (lv_at hl 4 rfl) ?_
    refine va_iast hx hb hK hP hD hS 2 1 rfl rfl (vp_in_b (by decide : (3 : Int) ≤ (3 : Int32).toInt ∧ (3 : Int32).toInt ≤ 3) (by decide) (by decide)) dX10_feed_43 (fun H locs hP hD hS => ?_)
    have hP : va_P (dC, dI) vwCl [(o0, .inr (8, [.int x_th, .ref mwo, .ref mim, .ref mhi, .ref mlu, .ref mtp, .int x_td, .ref mfv, .int x_sz, .int x_at, .int x_fr, .int x_to, .int x_va, .int x_fk, .int x_fp, .ref mfr, .ref mwt, .int x_wt, .int x_op, .int x_jo, .ref mfg, .ref mpl, .long x_dr, .ref mtm, .ref mfa, .ref mqu, .ref mmo, .ref mwy, .ref mwn, .ref mma, .ref mwi, .ref mnu, .ref mmv])), (mtp, .inl (c_tp, 1200, .inl w_tp)), (mfv, .inl (c_fv, 5, .inl (upd f_135 (3 : Int32).toNatClampNeg a4)))] H := hP
    have hD : va_D A [(o0, .inr (8, [.int x_th, .ref mwo, .ref mim, .ref mhi, .ref mlu, .ref mtp, .int x_td, .ref mfv, .int x_sz, .int x_at, .int x_fr, .int x_to, .int x_va, .int x_fk, .int x_fp, .ref mfr, .ref mwt, .int x_wt, .int x_op, .int x_jo, .ref mfg, .ref mpl, .long x_dr, .ref mtm, .ref mfa, .ref mqu, .ref mmo, .ref mwy, .ref mwn, .ref mma, .ref mwi, .ref mnu, .ref mmv])), (mtp, .inl (c_tp, 1200, .inl w_tp)), (mfv, .inl (c_fv, 5, .inl (upd f_135 (3 : Int32).toNatClampNeg a4)))] := hD
    generalize (upd f_135 (3 : Int32).toNatClampNeg a4) = f_136 at hP hD
    have hP : va_P (dC, dI) vwCl [(o0, .inr (8, [.int x_th, .ref mwo, .ref mim, .ref mhi, .ref mlu, .ref mtp, .int x_td, .ref mfv, .int x_sz, .int x_at, .int x_fr, .int x_to, .int x_va, .int x_fk, .int x_fp, .ref mfr, .ref mwt, .int x_wt, .int x_op, .int x_jo, .ref mfg, .ref mpl, .long x_dr, .ref mtm, .ref mfa, .ref mqu, .ref mmo, .ref mwy, .ref mwn, .ref mma, .ref mwi, .ref mnu, .ref mmv])), (mtp, .inl (c_tp, 1200, .inl w_tp)), (mfv, .inl (c_fv, 5, .inl f_136))] H := hP
    have hD : va_D A [(o0, .inr (8, [.int x_th, .ref mwo, .ref mim, .ref mhi, .ref mlu, .ref mtp, .int x_td, .ref mfv, .int x_sz, .int x_at, .int x_fr, .int x_to, .int x_va, .int x_fk, .int x_fp, .ref mfr, .ref mwt, .int x_wt, .int x_op, .int x_jo, .ref mfg, .ref mpl, .long x_dr, .ref mtm, .ref mfa, .ref mqu, .ref mmo, .ref mwy, .ref mwn, .ref mma, .ref mwi, .ref mnu, .ref mmv])), (mtp, .inl (c_tp, 1200, .inl w_tp)), (mfv, .inl (c_fv, 5, .inl f_136))] := hD
    refine lv_aload_n hx hb dX10_feed_44 rfl (lv_at hl 0 rfl) ?_
    refine va_get (D := (dC, dI)) (ci := 8) (v := .ref mfv) (C := RX10) (T := TX10) (N := 33) hx hb hts iX10_feed_X10 hown hK hP 0 rfl rfl 7 (by decide) (hts (.fieldLink RX10 27 "LuckyTicketModel" "five" "[I") (List.mem_of_getElem? (i := 2) rfl)) (fun _ h9 => h9) rfl dX10_feed_45 ?_
    refine lv_iconst (v := 4) hx hb dX10_feed_48 (by decide) ?_
    refine lv_iload hx hb dX10_feed_49 (lv_at hl 5 rfl) ?_
    refine va_iast hx hb hK hP hD hS 2 1 rfl rfl (vp_in_b (by decide : (4 : Int) ≤ (4 : Int32).toInt ∧ (4 : Int32).toInt ≤ 4) (by decide) (by decide)) dX10_feed_51 (fun H locs hP hD hS => ?_)
    have hP : va_P (dC, dI) vwCl [(o0, .inr (8, [.int x_th, .ref mwo, .ref mim, .ref mhi, .ref mlu, .ref mtp, .int x_td, .ref mfv, .int x_sz, .int x_at, .int x_fr, .int x_to, .int x_va, .int x_fk, .int x_fp, .ref mfr, .ref mwt, .int x_wt, .int x_op, .int x_jo, .ref mfg, .ref mpl, .long x_dr, .ref mtm, .ref mfa, .ref mqu, .ref mmo, .ref mwy, .ref mwn, .ref mma, .ref mwi, .ref mnu, .ref mmv])), (mtp, .inl (c_tp, 1200, .inl w_tp)), (mfv, .inl (c_fv, 5, .inl (upd f_136 (4 : Int32).toNatClampNeg a5)))] H := hP
    have hD : va_D A [(o0, .inr (8, [.int x_th, .ref mwo, .ref mim, .ref mhi, .ref mlu, .ref mtp, .int x_td, .ref mfv, .int x_sz, .int x_at, .int x_fr, .int x_to, .int x_va, .int x_fk, .int x_fp, .ref mfr, .ref mwt, .int x_wt, .int x_op, .int x_jo, .ref mfg, .ref mpl, .long x_dr, .ref mtm, .ref mfa, .ref mqu, .ref mmo, .ref mwy, .ref mwn, .ref mma, .ref mwi, .ref mnu, .ref mmv])), (mtp, .inl (c_tp, 1200, .inl w_tp)), (mfv, .inl (c_fv, 5, .inl (upd f_136 (4 : Int32).toNatClampNeg a5)))] := hD
    generalize (upd f_136 (4 : Int32).toNatClampNeg a5) = f_137 at hP hD
    have hP : va_P (dC, dI) vwCl [(o0, .inr (8, [.int x_th, .ref mwo, .ref mim, .ref mhi, .ref mlu, .ref mtp, .int x_td, .ref mfv, .int x_sz, .int x_at, .int x_fr, .int x_to, .int x_va, .int x_fk, .int x_fp, .ref mfr, .ref mwt, .int x_wt, .int x_op, .int x_jo, .ref mfg, .ref mpl, .long x_dr, .ref mtm, .ref mfa, .ref mqu, .ref mmo, .ref mwy, .ref mwn, .ref mma, .ref mwi, .ref mnu, .ref mmv])), (mtp, .inl (c_tp, 1200, .inl w_tp)), (mfv, .inl (c_fv, 5, .inl f_137))] H := hP
    have hD : va_D A [(o0, .inr (8, [.int x_th, .ref mwo, .ref mim, .ref mhi, .ref mlu, .ref mtp, .int x_td, .ref mfv, .int x_sz, .int x_at, .int x_fr, .int x_to, .int x_va, .int x_fk, .int x_fp, .ref mfr, .ref mwt, .int x_wt, .int x_op, .int x_jo, .ref mfg, .ref mpl, .long x_dr, .ref mtm, .ref mfa, .ref mqu, .ref mmo, .ref mwy, .ref mwn, .ref mma, .ref mwi, .ref mnu, .ref mmv])), (mtp, .inl (c_tp, 1200, .inl w_tp)), (mfv, .inl (c_fv, 5, .inl f_137))] := hD
    refine lv_iconst (v := 0) hx hb dX10_feed_52 (by decide) ?_
    refine lv_istore (lv' := [(6, .int 0), (0, .ref o0), (1, .int a1), (2, .int a2), (3, .int a3), (4, .int a4), (5, .int a5)]) hx hb dX10_feed_53 hl (by decide) rfl (fun ls hl => ?_)
    refine loopW (σ := Int32 × (Nat → Int32)) (fun v => (20 - v.1.toInt).toNat) (fun v H locs ls => ((0 : Int) ≤ v.1.toInt ∧ v.1.toInt ≤ 20) ∧ va_P (dC, dI) vwCl [(o0, .inr (8, [.int x_th, .ref mwo, .ref mim, .ref mhi, .ref mlu, .ref mtp, .int x_td, .ref mfv, .int x_sz, .int x_at, .int x_fr, .int x_to, .int x_va, .int x_fk, .int x_fp, .ref mfr, .ref mwt, .int x_wt, .int x_op, .int x_jo, .ref mfg, .ref mpl, .long x_dr, .ref mtm, .ref mfa, .ref mqu, .ref mmo, .ref mwy, .ref mwn, .ref mma, .ref mwi, .ref mnu, .ref mmv])), (mtp, .inl (c_tp, 1200, .inl v.2)), (mfv, .inl (c_fv, 5, .inl f_137))] H ∧ va_D A [(o0, .inr (8, [.int x_th, .ref mwo, .ref mim, .ref mhi, .ref mlu, .ref mtp, .int x_td, .ref mfv, .int x_sz, .int x_at, .int x_fr, .int x_to, .int x_va, .int x_fk, .int x_fp, .ref mfr, .ref mwt, .int x_wt, .int x_op, .int x_jo, .ref mfg, .ref mpl, .long x_dr, .ref mtm, .ref mfa, .ref mqu, .ref mmo, .ref mwy, .ref mwn, .ref mma, .ref mwi, .ref mnu, .ref mmv])), (mtp, .inl (c_tp, 1200, .inl v.2)), (mfv, .inl (c_fv, 5, .inl f_137))] ∧ va_S A s.heap H locs ∧ lv_has ls 7 [(6, .int v.1), (0, .ref o0), (1, .int a1), (2, .int a2), (3, .int a3), (4, .int a4), (5, .int a5)]) (fun v H locs ls hI ih_55_238 => ?_) ((0 : Int32), w_tp) ⟨(show (0 : Int) ≤ (0 : Int32).toInt ∧ (0 : Int32).toInt ≤ 20 from (rg_w (by decide : (0 : Int) ≤ (0 : Int32).toInt ∧ (0 : Int32).toInt ≤ 0) (by decide) (by decide))), hP, hD, hS, lv_sub hl [0, 1, 2, 3, 4, 5, 6] rfl⟩
    obtain ⟨y_149, f_150⟩ := v
    obtain ⟨b_y_149, hP, hD, hS, hl⟩ := hI
    have b_y_149 : (0 : Int) ≤ y_149.toInt ∧ y_149.toInt ≤ 20 := b_y_149
    have hP : va_P (dC, dI) vwCl [(o0, .inr (8, [.int x_th, .ref mwo, .ref mim, .ref mhi, .ref mlu, .ref mtp, .int x_td, .ref mfv, .int x_sz, .int x_at, .int x_fr, .int x_to, .int x_va, .int x_fk, .int x_fp, .ref mfr, .ref mwt, .int x_wt, .int x_op, .int x_jo, .ref mfg, .ref mpl, .long x_dr, .ref mtm, .ref mfa, .ref mqu, .ref mmo, .ref mwy, .ref mwn, .ref mma, .ref mwi, .ref mnu, .ref mmv])), (mtp, .inl (c_tp, 1200, .inl f_150)), (mfv, .inl (c_fv, 5, .inl f_137))] H := hP
    have hD : va_D A [(o0, .inr (8, [.int x_th, .ref mwo, .ref mim, .ref mhi, .ref mlu, .ref mtp, .int x_td, .ref mfv, .int x_sz, .int x_at, .int x_fr, .int x_to, .int x_va, .int x_fk, .int x_fp, .ref mfr, .ref mwt, .int x_wt, .int x_op, .int x_jo, .ref mfg, .ref mpl, .long x_dr, .ref mtm, .ref mfa, .ref mqu, .ref mmo, .ref mwy, .ref mwn, .ref mma, .ref mwi, .ref mnu, .ref mmv])), (mtp, .inl (c_tp, 1200, .inl f_150)), (mfv, .inl (c_fv, 5, .inl f_137))] := hD
    have hl : lv_has ls 7 [(6, .int y_149), (0, .ref o0), (1, .int a1), (2, .int a2), (3, .int a3), (4, .int a4), (5, .int a5)] := hl
    refine lv_iload hx hb dX10_feed_55 (lv_at hl 0 rfl) ?_
    refine lv_bipush (v := 20) hx hb dX10_feed_57 (by decide) ?_
    refine lv_icmp_ge (tgt := 101) hx hb dX10_feed_59 (by decide) (fun c_239 => ?_) (fun c_239 => ?_)
    ·
      have n_c_239 : (20 : Int) ≤ y_149.toInt := c_ge rfl (by decide) c_239
      have b_y_149 : (20 : Int) ≤ y_149.toInt ∧ y_149.toInt ≤ 20 := r_le2 (by decide : (20 : Int) ≤ (20 : Int32).toInt ∧ (20 : Int32).toInt ≤ 20) b_y_149 n_c_239 (by decide)
      refine lv_aload_n hx hb dX10_feed_101 rfl (lv_at hl 1 rfl) ?_
      refine lv_dup hx hb dX10_feed_102 rfl ?_
      refine va_get (D := (dC, dI)) (ci := 8) (v := .int x_td) (C := RX10) (T := TX10) (N := 33) hx hb hts iX10_feed_X10 hown hK hP 0 rfl rfl 6 (by decide) (hts (.fieldLink RX10 97 "LuckyTicketModel" "taped" "I") (List.mem_of_getElem? (i := 1) rfl)) (fun _ h9 => h9) rfl dX10_feed_103 ?_
      refine lv_bipush (v := 20) hx hb dX10_feed_106 (by decide) ?_
      refine lv_iadd hx hb dX10_feed_108 ?_
      refine lv_topi (fun z_250 e_z_250 => ?_)
      obtain ⟨q_z_250, b_z_250⟩ := ti_add (lo := 20) (hi := 1200) e_z_250 rfl (by decide : (20 : Int32).toInt = 20) b_x_td (by decide : (20 : Int) ≤ (20 : Int32).toInt ∧ (20 : Int32).toInt ≤ 20) (by decide)
      refine va_put (D := (dC, dI)) (ci := 8) (v := .int z_250) (ty := .int) (C := RX10) (T := TX10) (N := 33) hx hb hts iX10_feed_X10 tyX10 tyX10_ok nmX10 hown hK hP hD hS 0 rfl rfl 6 (by decide) (hts (.fieldLink RX10 97 "LuckyTicketModel" "taped" "I") (List.mem_of_getElem? (i := 1) rfl)) (fun _ h9 => h9) rfl (by decide +kernel) rfl rfl (Nat.le_of_ble_eq_true rfl) dX10_feed_109 (fun H locs hP hD hS => ?_)
      have hP : va_P (dC, dI) vwCl [(o0, .inr (8, [.int x_th, .ref mwo, .ref mim, .ref mhi, .ref mlu, .ref mtp, .int z_250, .ref mfv, .int x_sz, .int x_at, .int x_fr, .int x_to, .int x_va, .int x_fk, .int x_fp, .ref mfr, .ref mwt, .int x_wt, .int x_op, .int x_jo, .ref mfg, .ref mpl, .long x_dr, .ref mtm, .ref mfa, .ref mqu, .ref mmo, .ref mwy, .ref mwn, .ref mma, .ref mwi, .ref mnu, .ref mmv])), (mtp, .inl (c_tp, 1200, .inl f_150)), (mfv, .inl (c_fv, 5, .inl f_137))] H := hP
      have hD : va_D A [(o0, .inr (8, [.int x_th, .ref mwo, .ref mim, .ref mhi, .ref mlu, .ref mtp, .int z_250, .ref mfv, .int x_sz, .int x_at, .int x_fr, .int x_to, .int x_va, .int x_fk, .int x_fp, .ref mfr, .ref mwt, .int x_wt, .int x_op, .int x_jo, .ref mfg, .ref mpl, .long x_dr, .ref mtm, .ref mfa, .ref mqu, .ref mmo, .ref mwy, .ref mwn, .ref mma, .ref mwi, .ref mnu, .ref mmv])), (mtp, .inl (c_tp, 1200, .inl f_150)), (mfv, .inl (c_fv, 5, .inl f_137))] := hD
      refine lv_aload_n hx hb dX10_feed_112 rfl (lv_at hl 1 rfl) ?_
      refine va_get (D := (dC, dI)) (ci := 8) (v := .int z_250) (C := RX10) (T := TX10) (N := 33) hx hb hts iX10_feed_X10 hown hK hP 0 rfl rfl 6 (by decide) (hts (.fieldLink RX10 97 "LuckyTicketModel" "taped" "I") (List.mem_of_getElem? (i := 1) rfl)) (fun _ h9 => h9) rfl dX10_feed_113 ?_
      have hP9 := hP.sub (ws' := [(o0, .inr (8, [.int x_th, .ref mwo, .ref mim, .ref mhi, .ref mlu, .ref mtp, .int z_250, .ref mfv, .int x_sz, .int x_at, .int x_fr, .int x_to, .int x_va, .int x_fk, .int x_fp, .ref mfr, .ref mwt, .int x_wt, .int x_op, .int x_jo, .ref mfg, .ref mpl, .long x_dr, .ref mtm, .ref mfa, .ref mqu, .ref mmo, .ref mwy, .ref mwn, .ref mma, .ref mwi, .ref mnu, .ref mmv])), (mtp, .inl (c_tp, 1200, .inl f_150)), (mfv, .inl (c_fv, 5, .inl f_137))]) [0, 1, 2] rfl
      have hD9 := hD.sub (ws' := [(o0, .inr (8, [.int x_th, .ref mwo, .ref mim, .ref mhi, .ref mlu, .ref mtp, .int z_250, .ref mfv, .int x_sz, .int x_at, .int x_fr, .int x_to, .int x_va, .int x_fk, .int x_fp, .ref mfr, .ref mwt, .int x_wt, .int x_op, .int x_jo, .ref mfg, .ref mpl, .long x_dr, .ref mtm, .ref mfa, .ref mqu, .ref mmo, .ref mwy, .ref mwn, .ref mma, .ref mwi, .ref mnu, .ref mmv])), (mtp, .inl (c_tp, 1200, .inl f_150)), (mfv, .inl (c_fv, 5, .inl f_137))]) [0, 1, 2] (by decide) rfl
      have hK9 := hK.sub (tys' := [(c_tp, .byte), (c_fv, .int)]) [0, 1] rfl
      exact W.iret (v := z_250) hx hb hr (fun t ht hW => ⟨⟨z_250, (), rfl, (rg_w b_z_250 (by decide) (by decide)), z_250, f_150, f_137, b_z_250, by rw [ht]; exact hP9, va_K.moved hW.alike hK9, hD9⟩, hS.F ht⟩) hS.2.2 dX10_feed_116
    ·
      have n_c_239 : (y_149.toInt : Int) < 20 := c_nge rfl (by decide) c_239
      have b_y_149 : (0 : Int) ≤ y_149.toInt ∧ y_149.toInt ≤ 19 := r_lt1 b_y_149 (by decide : (20 : Int) ≤ (20 : Int32).toInt ∧ (20 : Int32).toInt ≤ 20) n_c_239 (by decide)
      refine lv_aload_n hx hb dX10_feed_62 rfl (lv_at hl 1 rfl) ?_
      refine va_get (D := (dC, dI)) (ci := 8) (v := .ref mtp) (C := RX10) (T := TX10) (N := 33) hx hb hts iX10_feed_X10 hown hK hP 0 rfl rfl 5 (by decide) (hts (.fieldLink RX10 23 "LuckyTicketModel" "tape" "[B") (List.mem_of_getElem? (i := 3) rfl)) (fun _ h9 => h9) rfl dX10_feed_63 ?_
      refine lv_aload_n hx hb dX10_feed_66 rfl (lv_at hl 1 rfl) ?_
      refine va_get (D := (dC, dI)) (ci := 8) (v := .int x_td) (C := RX10) (T := TX10) (N := 33) hx hb hts iX10_feed_X10 hown hK hP 0 rfl rfl 6 (by decide) (hts (.fieldLink RX10 97 "LuckyTicketModel" "taped" "I") (List.mem_of_getElem? (i := 1) rfl)) (fun _ h9 => h9) rfl dX10_feed_67 ?_
      refine lv_iload hx hb dX10_feed_70 (lv_at hl 0 rfl) ?_
      refine lv_iadd hx hb dX10_feed_72 ?_
      refine lv_topi (fun z_251 e_z_251 => ?_)
      obtain ⟨q_z_251, b_z_251⟩ := ti_add (lo := 0) (hi := 1199) e_z_251 rfl rfl b_x_td b_y_149 (by decide)
      refine lv_aload_n hx hb dX10_feed_73 rfl (lv_at hl 1 rfl) ?_
      refine va_get (D := (dC, dI)) (ci := 8) (v := .ref mfv) (C := RX10) (T := TX10) (N := 33) hx hb hts iX10_feed_X10 hown hK hP 0 rfl rfl 7 (by decide) (hts (.fieldLink RX10 27 "LuckyTicketModel" "five" "[I") (List.mem_of_getElem? (i := 2) rfl)) (fun _ h9 => h9) rfl dX10_feed_74 ?_
      refine lv_iload hx hb dX10_feed_77 (lv_at hl 0 rfl) ?_
      refine lv_iconst (v := 4) hx hb dX10_feed_79 (by decide) ?_
      refine lv_idiv hx hb dX10_feed_80 (by decide) ?_
      refine lv_topi (fun z_252 e_z_252 => ?_)
      obtain ⟨q_z_252, b_z_252⟩ := ti_div (hi := 4) e_z_252 rfl (by decide : (4 : Int32).toInt = 4) b_y_149 (by decide : (4 : Int) ≤ (4 : Int32).toInt ∧ (4 : Int32).toInt ≤ 4) (by decide)
      refine va_iald hx hb hK hP 2 1 rfl rfl (vp_in_b b_z_252 (by decide) (by decide)) dX10_feed_81 ?_
      refine lv_topi (fun z_253 e_z_253 => ?_)
      refine lv_bipush (v := 24) hx hb dX10_feed_82 (by decide) ?_
      refine lv_bipush (v := 8) hx hb dX10_feed_84 (by decide) ?_
      refine lv_iload hx hb dX10_feed_86 (lv_at hl 0 rfl) ?_
      refine lv_iconst (v := 4) hx hb dX10_feed_88 (by decide) ?_
      refine lv_irem hx hb dX10_feed_89 (by decide) ?_
      refine lv_topi (fun z_254 e_z_254 => ?_)
      obtain ⟨q_z_254, b_z_254⟩ := ti_rem (hi := 3) e_z_254 rfl (by decide : (4 : Int32).toInt = 4) b_y_149 (by decide : (4 : Int) ≤ (4 : Int32).toInt ∧ (4 : Int32).toInt ≤ 4) (by decide)
      refine lv_imul hx hb dX10_feed_90 ?_
      refine lv_topi (fun z_255 e_z_255 => ?_)
      obtain ⟨q_z_255, b_z_255⟩ := ti_mul (lo := 0) (hi := 24) e_z_255 (by decide : (8 : Int32).toInt = 8) rfl (by decide : (8 : Int) ≤ (8 : Int32).toInt ∧ (8 : Int32).toInt ≤ 8) b_z_254 (by decide)
      refine lv_isub hx hb dX10_feed_91 ?_
      refine lv_topi (fun z_256 e_z_256 => ?_)
      obtain ⟨q_z_256, b_z_256⟩ := ti_sub (lo := 0) (hi := 24) e_z_256 (by decide : (24 : Int32).toInt = 24) rfl (by decide : (24 : Int) ≤ (24 : Int32).toInt ∧ (24 : Int32).toInt ≤ 24) b_z_255 (by decide)
      refine lv_ishr hx hb dX10_feed_92 ?_
      refine lv_topi (fun z_257 e_z_257 => ?_)
      obtain ⟨z_258, e_z_258⟩ : ∃ y : Int32, y = z_257.toInt8.toInt32 := ⟨_, rfl⟩
      refine lv_i2b (v := z_258) hx hb dX10_feed_93 e_z_258.symm ?_
      refine va_bast hx hb hK hP hD hS 1 0 rfl rfl (vp_in_b b_z_251 (by decide) (by decide)) dX10_feed_94 (fun H locs hP hD hS => ?_)
      have hP : va_P (dC, dI) vwCl [(o0, .inr (8, [.int x_th, .ref mwo, .ref mim, .ref mhi, .ref mlu, .ref mtp, .int x_td, .ref mfv, .int x_sz, .int x_at, .int x_fr, .int x_to, .int x_va, .int x_fk, .int x_fp, .ref mfr, .ref mwt, .int x_wt, .int x_op, .int x_jo, .ref mfg, .ref mpl, .long x_dr, .ref mtm, .ref mfa, .ref mqu, .ref mmo, .ref mwy, .ref mwn, .ref mma, .ref mwi, .ref mnu, .ref mmv])), (mtp, .inl (c_tp, 1200, .inl (upd f_150 (z_251 : Int32).toNatClampNeg (vp_nar .byte z_258)))), (mfv, .inl (c_fv, 5, .inl f_137))] H := hP
      have hD : va_D A [(o0, .inr (8, [.int x_th, .ref mwo, .ref mim, .ref mhi, .ref mlu, .ref mtp, .int x_td, .ref mfv, .int x_sz, .int x_at, .int x_fr, .int x_to, .int x_va, .int x_fk, .int x_fp, .ref mfr, .ref mwt, .int x_wt, .int x_op, .int x_jo, .ref mfg, .ref mpl, .long x_dr, .ref mtm, .ref mfa, .ref mqu, .ref mmo, .ref mwy, .ref mwn, .ref mma, .ref mwi, .ref mnu, .ref mmv])), (mtp, .inl (c_tp, 1200, .inl (upd f_150 (z_251 : Int32).toNatClampNeg (vp_nar .byte z_258)))), (mfv, .inl (c_fv, 5, .inl f_137))] := hD
      generalize (upd f_150 (z_251 : Int32).toNatClampNeg (vp_nar .byte z_258)) = f_259 at hP hD
      have hP : va_P (dC, dI) vwCl [(o0, .inr (8, [.int x_th, .ref mwo, .ref mim, .ref mhi, .ref mlu, .ref mtp, .int x_td, .ref mfv, .int x_sz, .int x_at, .int x_fr, .int x_to, .int x_va, .int x_fk, .int x_fp, .ref mfr, .ref mwt, .int x_wt, .int x_op, .int x_jo, .ref mfg, .ref mpl, .long x_dr, .ref mtm, .ref mfa, .ref mqu, .ref mmo, .ref mwy, .ref mwn, .ref mma, .ref mwi, .ref mnu, .ref mmv])), (mtp, .inl (c_tp, 1200, .inl f_259)), (mfv, .inl (c_fv, 5, .inl f_137))] H := hP
      have hD : va_D A [(o0, .inr (8, [.int x_th, .ref mwo, .ref mim, .ref mhi, .ref mlu, .ref mtp, .int x_td, .ref mfv, .int x_sz, .int x_at, .int x_fr, .int x_to, .int x_va, .int x_fk, .int x_fp, .ref mfr, .ref mwt, .int x_wt, .int x_op, .int x_jo, .ref mfg, .ref mpl, .long x_dr, .ref mtm, .ref mfa, .ref mqu, .ref mmo, .ref mwy, .ref mwn, .ref mma, .ref mwi, .ref mnu, .ref mmv])), (mtp, .inl (c_tp, 1200, .inl f_259)), (mfv, .inl (c_fv, 5, .inl f_137))] := hD
      obtain ⟨z_260, e_z_260⟩ : ∃ y : Int32, y = y_149 + 1 := ⟨_, rfl⟩
      refine lv_iinc (v := z_260) (lv' := [(6, .int z_260), (0, .ref o0), (1, .int a1), (2, .int a2), (3, .int a3), (4, .int a4), (5, .int a5)]) hx hb dX10_feed_95 hl (k := 0) rfl (by rw [e_z_260]; rfl) (by decide) rfl (fun ls hl => ?_)
      obtain ⟨q_z_260, b_z_260⟩ := ti_add (lo := 1) (hi := 20) e_z_260 rfl (by decide : (1 : Int32).toInt = 1) b_y_149 (by decide : (1 : Int) ≤ (1 : Int32).toInt ∧ (1 : Int32).toInt ≤ 1) (by decide)
      refine lv_goto (tgt := 55) hx hb dX10_feed_98 (by decide) ?_
      exact ih_55_238 (z_260, f_259) _ _ _ ⟨(show (0 : Int) ≤ z_260.toInt ∧ z_260.toInt ≤ 20 from (rg_w b_z_260 (by decide) (by decide))), hP, hD, hS, lv_sub hl [0, 1, 2, 3, 4, 5, 6] rfl⟩ (show (20 - z_260.toInt).toNat < (20 - y_149.toInt).toNat by omega)
  ·
    have n_c_132 : (1200 : Int) < z_131.toInt := c_nle rfl (by decide) c_132
    have b_z_131 : (1201 : Int) ≤ z_131.toInt ∧ z_131.toInt ≤ 1220 := r_lt2 (by decide : (1200 : Int) ≤ (1200 : Int32).toInt ∧ (1200 : Int32).toInt ≤ 1200) b_z_131 n_c_132 (by decide)
    have b_x_td : (1181 : Int) ≤ x_td.toInt ∧ x_td.toInt ≤ 1200 := by
      have q0 := b_z_131; have q1 := q_z_131; have q2 := b_x_td; have q3 := (by decide : (20 : Int) ≤ (20 : Int32).toInt ∧ (20 : Int32).toInt ≤ 20); omega
    refine lv_iconst (v := (-1)) hx hb dX10_feed_13 (by decide) ?_
    have hP9 := hP.sub (ws' := [(o0, .inr (8, [.int x_th, .ref mwo, .ref mim, .ref mhi, .ref mlu, .ref mtp, .int x_td, .ref mfv, .int x_sz, .int x_at, .int x_fr, .int x_to, .int x_va, .int x_fk, .int x_fp, .ref mfr, .ref mwt, .int x_wt, .int x_op, .int x_jo, .ref mfg, .ref mpl, .long x_dr, .ref mtm, .ref mfa, .ref mqu, .ref mmo, .ref mwy, .ref mwn, .ref mma, .ref mwi, .ref mnu, .ref mmv])), (mtp, .inl (c_tp, 1200, .inl w_tp)), (mfv, .inl (c_fv, 5, .inl w_fv))]) [0, 1, 2] rfl
    have hD9 := hD.sub (ws' := [(o0, .inr (8, [.int x_th, .ref mwo, .ref mim, .ref mhi, .ref mlu, .ref mtp, .int x_td, .ref mfv, .int x_sz, .int x_at, .int x_fr, .int x_to, .int x_va, .int x_fk, .int x_fp, .ref mfr, .ref mwt, .int x_wt, .int x_op, .int x_jo, .ref mfg, .ref mpl, .long x_dr, .ref mtm, .ref mfa, .ref mqu, .ref mmo, .ref mwy, .ref mwn, .ref mma, .ref mwi, .ref mnu, .ref mmv])), (mtp, .inl (c_tp, 1200, .inl w_tp)), (mfv, .inl (c_fv, 5, .inl w_fv))]) [0, 1, 2] (by decide) rfl
    have hK9 := hK.sub (tys' := [(c_tp, .byte), (c_fv, .int)]) [0, 1] rfl
    exact W.iret (v := (-1)) hx hb hr (fun t ht hW => ⟨⟨(-1), (), rfl, (rg_w (by decide : (-1 : Int) ≤ ((-1) : Int32).toInt ∧ ((-1) : Int32).toInt ≤ -1) (by decide) (by decide)), x_td, w_tp, w_fv, (rg_w b_x_td (by decide) (by decide)), by rw [ht]; exact hP9, va_K.moved hW.alike hK9, hD9⟩, hS.F ht⟩) hS.2.2 dX10_feed_14
theorem dX10_end_0 : decode cX10_end 0 = .ok (.iload_n 1, 1) := by decide +kernel
theorem dX10_end_1 : decode cX10_end 1 = .ok (.i2l, 1) := by decide +kernel
theorem dX10_end_2 : decode cX10_end 2 = .ok (.lconst 0, 1) := by decide +kernel
theorem dX10_end_3 : decode cX10_end 3 = .ok (.aload_n 0, 1) := by decide +kernel
theorem dX10_end_4 : decode cX10_end 4 = .ok (.getfield 97, 3) := by decide +kernel
theorem dX10_end_7 : decode cX10_end 7 = .ok (.i2l, 1) := by decide +kernel
theorem dX10_end_8 : decode cX10_end 8 = .ok (.invokestatic 82, 3) := by decide +kernel
theorem dX10_end_11 : decode cX10_end 11 = .ok (.ifCond .ne 5, 3) := by decide +kernel
theorem dX10_end_14 : decode cX10_end 14 = .ok (.iconst (-1), 1) := by decide +kernel
theorem dX10_end_15 : decode cX10_end 15 = .ok (.ireturn, 1) := by decide +kernel
theorem dX10_end_16 : decode cX10_end 16 = .ok (.aload_n 0, 1) := by decide +kernel
theorem dX10_end_17 : decode cX10_end 17 = .ok (.iload_n 1, 1) := by decide +kernel
theorem dX10_end_18 : decode cX10_end 18 = .ok (.putfield 97, 3) := by decide +kernel
theorem dX10_end_21 : decode cX10_end 21 = .ok (.iload_n 1, 1) := by decide +kernel
theorem dX10_end_22 : decode cX10_end 22 = .ok (.ireturn, 1) := by decide +kernel
theorem hd_yX10_end : yX10_end.cls = RX10 ∧ yX10_end.cls ≠ "java/lang/invoke/MethodHandle" ∧ yX10_end.cls ≠ "java/lang/invoke/VarHandle" ∧ (parseMethodDescriptor yX10_end.desc).map (fun d => d.parameters.length) = some 1 := by decide +kernel
def uX10_end : List Cond := List.cons (.code yX10_end cX10_end 2 (some .int)) (HAppend.hAppend ([.fieldLink RX10 97 "LuckyTicketModel" "taped" "I", .methodLink RX10 82 yX10_in, .static yX10_in, .initialized RX10] : List Cond) (HAppend.hAppend uX10_in wsX100))
theorem iX10_end_X10 : ∀ w ∈ wsX100, w ∈ uX10_end := fun _ h => (List.mem_cons_of_mem _ (List.mem_append_right _ (List.mem_append_right _ h)))
theorem guX10_end : GU uX10_end := gu_cons (gu_app (by decide +kernel) (gu_ap guX10_in gws_X10))
theorem gX10_end__X10_in_S82 : GoodIn uX10_end (va_wsS RX10 82 yX10_in uX10_in) := gin_S (List.mem_of_getElem? (i := 2) rfl) (List.mem_of_getElem? (i := 3) rfl) (List.mem_of_getElem? (i := 4) rfl) (fun _ h => (List.mem_cons_of_mem _ (List.mem_append_right _ (List.mem_append_left _ h)))) guX10_in
set_option maxHeartbeats 4000000 in
set_option maxRecDepth 100000 in
theorem kX10_end (l : Launch) (dC : Nat → ClassId) (dI : Nat → Nat → Nat) (o0 : Nat) (x_th : Int32) (mwo : Nat) (mim : Nat) (mhi : Nat) (mlu : Nat) (mtp : Nat) (x_td : Int32) (mfv : Nat) (x_sz : Int32) (x_at : Int32) (x_fr : Int32) (x_to : Int32) (x_va : Int32) (x_fk : Int32) (x_fp : Int32) (mfr : Nat) (mwt : Nat) (x_wt : Int32) (x_op : Int32) (x_jo : Int32) (mfg : Nat) (mpl : Nat) (x_dr : Int64) (mtm : Nat) (mfa : Nat) (mqu : Nat) (mmo : Nat) (mwy : Nat) (mwn : Nat) (mma : Nat) (mwi : Nat) (mnu : Nat) (mmv : Nat) (a1 : Int32) (sz : Nat) (b_x_td : (0 : Int) ≤ x_td.toInt ∧ x_td.toInt ≤ 1200) : Met l yX10_end uX10_end ({ frames := 1, cells := 0, slots := 0, locals := 25 }) (va_Pc [.ref o0, .int a1] (hw (dC, dI) vwCl [(o0, .inr (8, [.int x_th, .ref mwo, .ref mim, .ref mhi, .ref mlu, .ref mtp, .int x_td, .ref mfv, .int x_sz, .int x_at, .int x_fr, .int x_to, .int x_va, .int x_fk, .int x_fp, .ref mfr, .ref mwt, .int x_wt, .int x_op, .int x_jo, .ref mfg, .ref mpl, .long x_dr, .ref mtm, .ref mfa, .ref mqu, .ref mmo, .ref mwy, .ref mwn, .ref mma, .ref mwi, .ref mnu, .ref mmv]))] [] sz)) (va_Qi (fun (r : Int32) (_ : Unit) => ((-1 : Int) ≤ r.toInt ∧ r.toInt ≤ 1200)) (fun (_ : Unit) t => ∃ (o0_ : Int32), ((0 : Int) ≤ o0_.toInt ∧ o0_.toInt ≤ 1200) ∧ va_P (dC, dI) vwCl [(o0, .inr (8, [.int x_th, .ref mwo, .ref mim, .ref mhi, .ref mlu, .ref mtp, .int o0_, .ref mfv, .int x_sz, .int x_at, .int x_fr, .int x_to, .int x_va, .int x_fk, .int x_fp, .ref mfr, .ref mwt, .int x_wt, .int x_op, .int x_jo, .ref mfg, .ref mpl, .long x_dr, .ref mtm, .ref mfa, .ref mqu, .ref mmo, .ref mwy, .ref mwn, .ref mma, .ref mwi, .ref mnu, .ref mmv]))] t.heap ∧ va_K (dC, dI) vwCl [] t ∧ va_D (va_A [(o0, .inr (8, [.int x_th, .ref mwo, .ref mim, .ref mhi, .ref mlu, .ref mtp, .int x_td, .ref mfv, .int x_sz, .int x_at, .int x_fr, .int x_to, .int x_va, .int x_fk, .int x_fp, .ref mfr, .ref mwt, .int x_wt, .int x_op, .int x_jo, .ref mfg, .ref mpl, .long x_dr, .ref mtm, .ref mfa, .ref mqu, .ref mmo, .ref mwy, .ref mwn, .ref mma, .ref mwi, .ref mnu, .ref mmv]))] sz) [(o0, .inr (8, [.int x_th, .ref mwo, .ref mim, .ref mhi, .ref mlu, .ref mtp, .int o0_, .ref mfv, .int x_sz, .int x_at, .int x_fr, .int x_to, .int x_va, .int x_fk, .int x_fp, .ref mfr, .ref mwt, .int x_wt, .int x_op, .int x_jo, .ref mfg, .ref mpl, .long x_dr, .ref mtm, .ref mfa, .ref mqu, .ref mmo, .ref mwy, .ref mwn, .ref mma, .ref mwi, .ref mnu, .ref mmv]))]) (va_A [(o0, .inr (8, [.int x_th, .ref mwo, .ref mim, .ref mhi, .ref mlu, .ref mtp, .int x_td, .ref mfv, .int x_sz, .int x_at, .int x_fr, .int x_to, .int x_va, .int x_fk, .int x_fp, .ref mfr, .ref mwt, .int x_wt, .int x_op, .int x_jo, .ref mfg, .ref mpl, .long x_dr, .ref mtm, .ref mfa, .ref mqu, .ref mmo, .ref mwy, .ref mwn, .ref mma, .ref mwi, .ref mnu, .ref mmv]))] sz)) 0 0 (va_A [(o0, .inr (8, [.int x_th, .ref mwo, .ref mim, .ref mhi, .ref mlu, .ref mtp, .int x_td, .ref mfv, .int x_sz, .int x_at, .int x_fr, .int x_to, .int x_va, .int x_fk, .int x_fp, .ref mfr, .ref mwt, .int x_wt, .int x_op, .int x_jo, .ref mfg, .ref mpl, .long x_dr, .ref mtm, .ref mfa, .ref mqu, .ref mmo, .ref mwy, .ref mwn, .ref mma, .ref mwi, .ref mnu, .ref mmv]))] sz) := by
  refine Met.ofW (cc := cX10_end) (maxL := 2) (ret := (some .int)) pn_X10 rfl ?_
  intro p e s m args below meth c s₁ B hml hv
  obtain ⟨rfl, hsz, hP, hK, hD0, hN⟩ := hv
  have hx := B.exec
  have hb := B.bytes
  have hr := B.returns
  have hts := atoms_spec (ws := uX10_end) B.pre
  have hown : s.vm.findClass RX10 = some m.cls := hown_of B.named rfl
  have hlocks := B.notSynchronized
  subst hsz
  have hD := hD0.self (sz := s.heap.size)
  generalize hAe : va_A [(o0, .inr (8, [.int x_th, .ref mwo, .ref mim, .ref mhi, .ref mlu, .ref mtp, .int x_td, .ref mfv, .int x_sz, .int x_at, .int x_fr, .int x_to, .int x_va, .int x_fk, .int x_fp, .ref mfr, .ref mwt, .int x_wt, .int x_op, .int x_jo, .ref mfg, .ref mpl, .long x_dr, .ref mtm, .ref mfa, .ref mqu, .ref mmo, .ref mwy, .ref mwn, .ref mma, .ref mwi, .ref mnu, .ref mmv]))] s.heap.size = A at hD ⊢
  have hA : ∀ q : Nat, s.heap.size ≤ q → A q := fun q h => by rw [← hAe]; exact Or.inr h
  have hS : va_S A s.heap s.heap [] := va_S.rf
  have hP : va_P (dC, dI) vwCl [(o0, .inr (8, [.int x_th, .ref mwo, .ref mim, .ref mhi, .ref mlu, .ref mtp, .int x_td, .ref mfv, .int x_sz, .int x_at, .int x_fr, .int x_to, .int x_va, .int x_fk, .int x_fp, .ref mfr, .ref mwt, .int x_wt, .int x_op, .int x_jo, .ref mfg, .ref mpl, .long x_dr, .ref mtm, .ref mfa, .ref mqu, .ref mmo, .ref mwy, .ref mwn, .ref mma, .ref mwi, .ref mnu, .ref mmv]))] s.heap := hP
  have hl := lv_entry ([.ref o0, .int a1]) (n := 2) (Nat.le_of_ble_eq_true rfl)
  rw [lg_entry_eq]
  generalize (lg_sl ([.ref o0, .int a1]) ++ List.replicate (2 - (lg_sl ([.ref o0, .int a1])).length) Slot.unset).toArray = ls at hl ⊢
  have hl : lv_has ls 2 [(0, .ref o0), (1, .int a1)] := hl
  refine lv_iload_n hx hb dX10_end_0 rfl (lv_at hl 1 rfl) ?_
  obtain ⟨z_6, e_z_6⟩ : ∃ y : Int64, y = a1.toInt64 := ⟨_, rfl⟩
  refine lv_i2l (v := z_6) hx hb dX10_end_1 e_z_6.symm ?_
  obtain ⟨q_z_6, b_z_6⟩ := ti_i2l e_z_6 (ti_rng a1)
  refine lv_lconst (v := 0) hx hb dX10_end_2 (by decide) ?_
  refine lv_aload_n hx hb dX10_end_3 rfl (lv_at hl 0 rfl) ?_
  refine va_get (D := (dC, dI)) (ci := 8) (v := .int x_td) (C := RX10) (T := TX10) (N := 33) hx hb hts iX10_end_X10 hown hK hP 0 rfl rfl 6 (by decide) (hts (.fieldLink RX10 97 "LuckyTicketModel" "taped" "I") (List.mem_of_getElem? (i := 1) rfl)) (fun _ h9 => h9) rfl dX10_end_4 ?_
  obtain ⟨z_7, e_z_7⟩ : ∃ y : Int64, y = x_td.toInt64 := ⟨_, rfl⟩
  refine lv_i2l (v := z_7) hx hb dX10_end_7 e_z_7.symm ?_
  obtain ⟨q_z_7, b_z_7⟩ := ti_i2l e_z_7 b_x_td
  refine vp_callSi (W.runS (As := [.long z_6, .long 0, .long z_7]) (rest := []) ⟨hx, hb, hml, hown, hts⟩ (kX10_in l dC dI z_6 0 z_7 ) (va_cwS 3 hts gX10_end__X10_in_S82 rfl rfl rfl hd_yX10_in.2 ⟨lel 1 1 rfl, lel 25 25 rfl⟩) ⟨pn_fb, pn_use⟩ rfl rfl hl.1 rfl (lv_room (Nat.le_of_ble_eq_true rfl)) dX10_end_8 ⟨lel 0 0 rfl, lel 0 0 rfl⟩) (fun r_8 h_r_8 => ?_)
  obtain ⟨b_r_8, nz_r_8⟩ := h_r_8
  have b_r_8 : (0 : Int) ≤ r_8.toInt ∧ r_8.toInt ≤ 1 := b_r_8
  refine lv_if_ne (tgt := 16) hx hb dX10_end_11 (by decide) (fun c_9 => ?_) (fun c_9 => ?_)
  ·
    have n_c_9 : (r_8.toInt : Int) ≠ 0 := c_ne rfl (by decide) c_9
    have b_r_8 : (1 : Int) ≤ r_8.toInt ∧ r_8.toInt ≤ 1 := r_ne1 b_r_8 (by decide : (0 : Int) ≤ (0 : Int32).toInt ∧ (0 : Int32).toInt ≤ 0) n_c_9 (by decide)
    have g_10 := nz_r_8 c_9
    have lt0_g_10 := (by decide : (0 : Int64).toInt = 0)
    have b_z_6 : (0 : Int) ≤ z_6.toInt ∧ z_6.toInt ≤ 1200 := by
      have q0 := b_z_6
      have q1 := (by decide : (0 : Int) ≤ (0 : Int64).toInt ∧ (0 : Int64).toInt ≤ 0)
      have q2 := b_z_7
      omega
    have b_a1 : (0 : Int) ≤ a1.toInt ∧ a1.toInt ≤ 1200 := by
      have q0 := b_z_6; have q1 := q_z_6; have q2 := (ti_rng a1); omega
    refine lv_aload_n hx hb dX10_end_16 rfl (lv_at hl 0 rfl) ?_
    refine lv_iload_n hx hb dX10_end_17 rfl (lv_at hl 1 rfl) ?_
    refine va_put (D := (dC, dI)) (ci := 8) (v := .int a1) (ty := .int) (C := RX10) (T := TX10) (N := 33) hx hb hts iX10_end_X10 tyX10 tyX10_ok nmX10 hown hK hP hD hS 0 rfl rfl 6 (by decide) (hts (.fieldLink RX10 97 "LuckyTicketModel" "taped" "I") (List.mem_of_getElem? (i := 1) rfl)) (fun _ h9 => h9) rfl (by decide +kernel) rfl rfl (Nat.le_of_ble_eq_true rfl) dX10_end_18 (fun H locs hP hD hS => ?_)
    have hP : va_P (dC, dI) vwCl [(o0, .inr (8, [.int x_th, .ref mwo, .ref mim, .ref mhi, .ref mlu, .ref mtp, .int a1, .ref mfv, .int x_sz, .int x_at, .int x_fr, .int x_to, .int x_va, .int x_fk, .int x_fp, .ref mfr, .ref mwt, .int x_wt, .int x_op, .int x_jo, .ref mfg, .ref mpl, .long x_dr, .ref mtm, .ref mfa, .ref mqu, .ref mmo, .ref mwy, .ref mwn, .ref mma, .ref mwi, .ref mnu, .ref mmv]))] H := hP
    have hD : va_D A [(o0, .inr (8, [.int x_th, .ref mwo, .ref mim, .ref mhi, .ref mlu, .ref mtp, .int a1, .ref mfv, .int x_sz, .int x_at, .int x_fr, .int x_to, .int x_va, .int x_fk, .int x_fp, .ref mfr, .ref mwt, .int x_wt, .int x_op, .int x_jo, .ref mfg, .ref mpl, .long x_dr, .ref mtm, .ref mfa, .ref mqu, .ref mmo, .ref mwy, .ref mwn, .ref mma, .ref mwi, .ref mnu, .ref mmv]))] := hD
    refine lv_iload_n hx hb dX10_end_21 rfl (lv_at hl 1 rfl) ?_
    have hP9 := hP.sub (ws' := [(o0, .inr (8, [.int x_th, .ref mwo, .ref mim, .ref mhi, .ref mlu, .ref mtp, .int a1, .ref mfv, .int x_sz, .int x_at, .int x_fr, .int x_to, .int x_va, .int x_fk, .int x_fp, .ref mfr, .ref mwt, .int x_wt, .int x_op, .int x_jo, .ref mfg, .ref mpl, .long x_dr, .ref mtm, .ref mfa, .ref mqu, .ref mmo, .ref mwy, .ref mwn, .ref mma, .ref mwi, .ref mnu, .ref mmv]))]) [0] rfl
    have hD9 := hD.sub (ws' := [(o0, .inr (8, [.int x_th, .ref mwo, .ref mim, .ref mhi, .ref mlu, .ref mtp, .int a1, .ref mfv, .int x_sz, .int x_at, .int x_fr, .int x_to, .int x_va, .int x_fk, .int x_fp, .ref mfr, .ref mwt, .int x_wt, .int x_op, .int x_jo, .ref mfg, .ref mpl, .long x_dr, .ref mtm, .ref mfa, .ref mqu, .ref mmo, .ref mwy, .ref mwn, .ref mma, .ref mwi, .ref mnu, .ref mmv]))]) [0] (by decide) rfl
    have hK9 := hK.sub (tys' := []) [] rfl
    exact W.iret (v := a1) hx hb hr (fun t ht hW => ⟨⟨a1, (), rfl, (rg_w b_a1 (by decide) (by decide)), a1, b_a1, by rw [ht]; exact hP9, va_K.moved hW.alike hK9, hD9⟩, hS.F ht⟩) hS.2.2 dX10_end_22
  ·
    have n_c_9 : (r_8.toInt : Int) = 0 := c_eq rfl (by decide) c_9
    have b_r_8 : (0 : Int) ≤ r_8.toInt ∧ r_8.toInt ≤ 0 := r_eq1 b_r_8 (by decide : (0 : Int) ≤ (0 : Int32).toInt ∧ (0 : Int32).toInt ≤ 0) n_c_9 (by decide)
    refine lv_iconst (v := (-1)) hx hb dX10_end_14 (by decide) ?_
    have hP9 := hP.sub (ws' := [(o0, .inr (8, [.int x_th, .ref mwo, .ref mim, .ref mhi, .ref mlu, .ref mtp, .int x_td, .ref mfv, .int x_sz, .int x_at, .int x_fr, .int x_to, .int x_va, .int x_fk, .int x_fp, .ref mfr, .ref mwt, .int x_wt, .int x_op, .int x_jo, .ref mfg, .ref mpl, .long x_dr, .ref mtm, .ref mfa, .ref mqu, .ref mmo, .ref mwy, .ref mwn, .ref mma, .ref mwi, .ref mnu, .ref mmv]))]) [0] rfl
    have hD9 := hD.sub (ws' := [(o0, .inr (8, [.int x_th, .ref mwo, .ref mim, .ref mhi, .ref mlu, .ref mtp, .int x_td, .ref mfv, .int x_sz, .int x_at, .int x_fr, .int x_to, .int x_va, .int x_fk, .int x_fp, .ref mfr, .ref mwt, .int x_wt, .int x_op, .int x_jo, .ref mfg, .ref mpl, .long x_dr, .ref mtm, .ref mfa, .ref mqu, .ref mmo, .ref mwy, .ref mwn, .ref mma, .ref mwi, .ref mnu, .ref mmv]))]) [0] (by decide) rfl
    have hK9 := hK.sub (tys' := []) [] rfl
    exact W.iret (v := (-1)) hx hb hr (fun t ht hW => ⟨⟨(-1), (), rfl, (rg_w (by decide : (-1 : Int) ≤ ((-1) : Int32).toInt ∧ ((-1) : Int32).toInt ≤ -1) (by decide) (by decide)), x_td, b_x_td, by rw [ht]; exact hP9, va_K.moved hW.alike hK9, hD9⟩, hS.F ht⟩) hS.2.2 dX10_end_15
theorem dX10_fault_0 : decode cX10_fault 0 = .ok (.iload_n 1, 1) := by decide +kernel
theorem dX10_fault_1 : decode cX10_fault 1 = .ok (.ifCond .ne 10, 3) := by decide +kernel
theorem dX10_fault_4 : decode cX10_fault 4 = .ok (.aload_n 0, 1) := by decide +kernel
theorem dX10_fault_5 : decode cX10_fault 5 = .ok (.getfield 134, 3) := by decide +kernel
theorem dX10_fault_8 : decode cX10_fault 8 = .ok (.goto 16, 3) := by decide +kernel
theorem dX10_fault_11 : decode cX10_fault 11 = .ok (.iload_n 1, 1) := by decide +kernel
theorem dX10_fault_12 : decode cX10_fault 12 = .ok (.iconst 1, 1) := by decide +kernel
theorem dX10_fault_13 : decode cX10_fault 13 = .ok (.if_icmp .ne 10, 3) := by decide +kernel
theorem dX10_fault_16 : decode cX10_fault 16 = .ok (.aload_n 0, 1) := by decide +kernel
theorem dX10_fault_17 : decode cX10_fault 17 = .ok (.getfield 30, 3) := by decide +kernel
theorem dX10_fault_20 : decode cX10_fault 20 = .ok (.goto 4, 3) := by decide +kernel
theorem dX10_fault_23 : decode cX10_fault 23 = .ok (.iconst (-1), 1) := by decide +kernel
theorem dX10_fault_24 : decode cX10_fault 24 = .ok (.ireturn, 1) := by decide +kernel
theorem hd_yX10_fault : yX10_fault.cls = RX10 ∧ yX10_fault.cls ≠ "java/lang/invoke/MethodHandle" ∧ yX10_fault.cls ≠ "java/lang/invoke/VarHandle" ∧ (parseMethodDescriptor yX10_fault.desc).map (fun d => d.parameters.length) = some 1 := by decide +kernel
def uX10_fault : List Cond := List.cons (.code yX10_fault cX10_fault 2 (some .int)) (HAppend.hAppend ([.fieldLink RX10 30 "LuckyTicketModel" "faultPlace" "I", .fieldLink RX10 134 "LuckyTicketModel" "faultKind" "I"] : List Cond) wsX100)
theorem iX10_fault_X10 : ∀ w ∈ wsX100, w ∈ uX10_fault := fun _ h => (List.mem_cons_of_mem _ (List.mem_append_right _ h))
theorem guX10_fault : GU uX10_fault := gu_cons (gu_app (by decide +kernel) gws_X10)
set_option maxHeartbeats 4000000 in
set_option maxRecDepth 100000 in
theorem kX10_fault (l : Launch) (dC : Nat → ClassId) (dI : Nat → Nat → Nat) (o0 : Nat) (x_th : Int32) (mwo : Nat) (mim : Nat) (mhi : Nat) (mlu : Nat) (mtp : Nat) (x_td : Int32) (mfv : Nat) (x_sz : Int32) (x_at : Int32) (x_fr : Int32) (x_to : Int32) (x_va : Int32) (x_fk : Int32) (x_fp : Int32) (mfr : Nat) (mwt : Nat) (x_wt : Int32) (x_op : Int32) (x_jo : Int32) (mfg : Nat) (mpl : Nat) (x_dr : Int64) (mtm : Nat) (mfa : Nat) (mqu : Nat) (mmo : Nat) (mwy : Nat) (mwn : Nat) (mma : Nat) (mwi : Nat) (mnu : Nat) (mmv : Nat) (a1 : Int32) : Met l yX10_fault uX10_fault ({ frames := 0, cells := 0, slots := 0, locals := 0 }) (va_Pc [.ref o0, .int a1] (pw (dC, dI) vwCl [(o0, .inr (8, [.int x_th, .ref mwo, .ref mim, .ref mhi, .ref mlu, .ref mtp, .int x_td, .ref mfv, .int x_sz, .int x_at, .int x_fr, .int x_to, .int x_va, .int x_fk, .int x_fp, .ref mfr, .ref mwt, .int x_wt, .int x_op, .int x_jo, .ref mfg, .ref mpl, .long x_dr, .ref mtm, .ref mfa, .ref mqu, .ref mmo, .ref mwy, .ref mwn, .ref mma, .ref mwi, .ref mnu, .ref mmv]))] [])) (vp_Si (fun r => True)) 0 0 (fun _ => False) := by
  refine Met.ofW (cc := cX10_fault) (maxL := 2) (ret := (some .int)) pn_X10 rfl ?_
  intro p e s m args below meth c s₁ B hml hv
  obtain ⟨rfl, hP, hK, hN⟩ := hv
  have hx := B.exec
  have hb := B.bytes
  have hr := B.returns
  have hts := atoms_spec (ws := uX10_fault) B.pre
  have hown : s.vm.findClass RX10 = some m.cls := hown_of B.named rfl
  have hlocks := B.notSynchronized
  have hl := lv_entry ([.ref o0, .int a1]) (n := 2) (Nat.le_of_ble_eq_true rfl)
  rw [lg_entry_eq]
  generalize (lg_sl ([.ref o0, .int a1]) ++ List.replicate (2 - (lg_sl ([.ref o0, .int a1])).length) Slot.unset).toArray = ls at hl ⊢
  have hl : lv_has ls 2 [(0, .ref o0), (1, .int a1)] := hl
  refine lv_iload_n hx hb dX10_fault_0 rfl (lv_at hl 1 rfl) ?_
  refine lv_if_ne (tgt := 11) hx hb dX10_fault_1 (by decide) (fun c_3 => ?_) (fun c_3 => ?_)
  ·
    have n_c_3 : (a1.toInt : Int) ≠ 0 := c_ne rfl (by decide) c_3
    refine lv_iload_n hx hb dX10_fault_11 rfl (lv_at hl 1 rfl) ?_
    refine lv_iconst (v := 1) hx hb dX10_fault_12 (by decide) ?_
    refine lv_icmp_ne (tgt := 23) hx hb dX10_fault_13 (by decide) (fun c_4 => ?_) (fun c_4 => ?_)
    ·
      have n_c_4 : (a1.toInt : Int) ≠ 1 := c_ne rfl (by decide) c_4
      refine lv_iconst (v := (-1)) hx hb dX10_fault_23 (by decide) ?_
      exact W.iret (v := (-1)) hx hb hr (fun t ht hW => ⟨(-1), rfl, trivial, ht⟩) t_nil dX10_fault_24
    ·
      have n_c_4 : (a1.toInt : Int) = 1 := c_eq rfl (by decide) c_4
      have b_a1 : (1 : Int) ≤ a1.toInt ∧ a1.toInt ≤ 1 := r_eq1 (ti_rng a1) (by decide : (1 : Int) ≤ (1 : Int32).toInt ∧ (1 : Int32).toInt ≤ 1) n_c_4 (by decide)
      refine lv_aload_n hx hb dX10_fault_16 rfl (lv_at hl 0 rfl) ?_
      refine va_get (D := (dC, dI)) (ci := 8) (v := .int x_fp) (C := RX10) (T := TX10) (N := 33) hx hb hts iX10_fault_X10 hown hK hP 0 rfl rfl 14 (by decide) (hts (.fieldLink RX10 30 "LuckyTicketModel" "faultPlace" "I") (List.mem_of_getElem? (i := 1) rfl)) (fun _ h9 => h9) rfl dX10_fault_17 ?_
      refine lv_goto (tgt := 24) hx hb dX10_fault_20 (by decide) ?_
      exact W.iret (v := x_fp) hx hb hr (fun t ht hW => ⟨x_fp, rfl, trivial, ht⟩) t_nil dX10_fault_24
  ·
    have n_c_3 : (a1.toInt : Int) = 0 := c_eq rfl (by decide) c_3
    have b_a1 : (0 : Int) ≤ a1.toInt ∧ a1.toInt ≤ 0 := r_eq1 (ti_rng a1) (by decide : (0 : Int) ≤ (0 : Int32).toInt ∧ (0 : Int32).toInt ≤ 0) n_c_3 (by decide)
    refine lv_aload_n hx hb dX10_fault_4 rfl (lv_at hl 0 rfl) ?_
    refine va_get (D := (dC, dI)) (ci := 8) (v := .int x_fk) (C := RX10) (T := TX10) (N := 33) hx hb hts iX10_fault_X10 hown hK hP 0 rfl rfl 13 (by decide) (hts (.fieldLink RX10 134 "LuckyTicketModel" "faultKind" "I") (List.mem_of_getElem? (i := 2) rfl)) (fun _ h9 => h9) rfl dX10_fault_5 ?_
    refine lv_goto (tgt := 24) hx hb dX10_fault_8 (by decide) ?_
    exact W.iret (v := x_fk) hx hb hr (fun t ht hW => ⟨x_fk, rfl, trivial, ht⟩) t_nil dX10_fault_24
theorem dX10_row_0 : decode cX10_row 0 = .ok (.iload_n 1, 1) := by decide +kernel
theorem dX10_row_1 : decode cX10_row 1 = .ok (.invokestatic 369, 3) := by decide +kernel
theorem dX10_row_4 : decode cX10_row 4 = .ok (.ifCond .eq 21, 3) := by decide +kernel
theorem dX10_row_7 : decode cX10_row 7 = .ok (.iload_n 2, 1) := by decide +kernel
theorem dX10_row_8 : decode cX10_row 8 = .ok (.i2l, 1) := by decide +kernel
theorem dX10_row_9 : decode cX10_row 9 = .ok (.lconst 0, 1) := by decide +kernel
theorem dX10_row_10 : decode cX10_row 10 = .ok (.ldc2_w 375, 3) := by decide +kernel
theorem dX10_row_13 : decode cX10_row 13 = .ok (.invokestatic 82, 3) := by decide +kernel
theorem dX10_row_16 : decode cX10_row 16 = .ok (.ifCond .eq 9, 3) := by decide +kernel
theorem dX10_row_19 : decode cX10_row 19 = .ok (.iload_n 3, 1) := by decide +kernel
theorem dX10_row_20 : decode cX10_row 20 = .ok (.bipush 60, 2) := by decide +kernel
theorem dX10_row_22 : decode cX10_row 22 = .ok (.if_icmp .le 6, 3) := by decide +kernel
theorem dX10_row_25 : decode cX10_row 25 = .ok (.bipush (-2), 2) := by decide +kernel
theorem dX10_row_27 : decode cX10_row 27 = .ok (.ireturn, 1) := by decide +kernel
theorem dX10_row_28 : decode cX10_row 28 = .ok (.iload_n 3, 1) := by decide +kernel
theorem dX10_row_29 : decode cX10_row 29 = .ok (.ifCond .ge 6, 3) := by decide +kernel
theorem dX10_row_32 : decode cX10_row 32 = .ok (.bipush (-3), 2) := by decide +kernel
theorem dX10_row_34 : decode cX10_row 34 = .ok (.ireturn, 1) := by decide +kernel
theorem dX10_row_35 : decode cX10_row 35 = .ok (.aload_n 0, 1) := by decide +kernel
theorem dX10_row_36 : decode cX10_row 36 = .ok (.getfield 65, 3) := by decide +kernel
theorem dX10_row_39 : decode cX10_row 39 = .ok (.iload_n 1, 1) := by decide +kernel
theorem dX10_row_40 : decode cX10_row 40 = .ok (.iload_n 3, 1) := by decide +kernel
theorem dX10_row_41 : decode cX10_row 41 = .ok (.iastore, 1) := by decide +kernel
theorem dX10_row_42 : decode cX10_row 42 = .ok (.aload_n 0, 1) := by decide +kernel
theorem dX10_row_43 : decode cX10_row 43 = .ok (.getfield 68, 3) := by decide +kernel
theorem dX10_row_46 : decode cX10_row 46 = .ok (.iload_n 1, 1) := by decide +kernel
theorem dX10_row_47 : decode cX10_row 47 = .ok (.iload_n 2, 1) := by decide +kernel
theorem dX10_row_48 : decode cX10_row 48 = .ok (.iastore, 1) := by decide +kernel
theorem dX10_row_49 : decode cX10_row 49 = .ok (.iconst 0, 1) := by decide +kernel
theorem dX10_row_50 : decode cX10_row 50 = .ok (.istore 4, 2) := by decide +kernel
theorem dX10_row_52 : decode cX10_row 52 = .ok (.iload 4, 2) := by decide +kernel
theorem dX10_row_54 : decode cX10_row 54 = .ok (.bipush 60, 2) := by decide +kernel
theorem dX10_row_56 : decode cX10_row 56 = .ok (.if_icmp .ge 22, 3) := by decide +kernel
theorem dX10_row_59 : decode cX10_row 59 = .ok (.aload_n 0, 1) := by decide +kernel
theorem dX10_row_60 : decode cX10_row 60 = .ok (.getfield 71, 3) := by decide +kernel
theorem dX10_row_63 : decode cX10_row 63 = .ok (.bipush 60, 2) := by decide +kernel
theorem dX10_row_65 : decode cX10_row 65 = .ok (.iload_n 1, 1) := by decide +kernel
theorem dX10_row_66 : decode cX10_row 66 = .ok (.imul, 1) := by decide +kernel
theorem dX10_row_67 : decode cX10_row 67 = .ok (.iload 4, 2) := by decide +kernel
theorem dX10_row_69 : decode cX10_row 69 = .ok (.iadd, 1) := by decide +kernel
theorem dX10_row_70 : decode cX10_row 70 = .ok (.lconst 0, 1) := by decide +kernel
theorem dX10_row_71 : decode cX10_row 71 = .ok (.lastore, 1) := by decide +kernel
theorem dX10_row_72 : decode cX10_row 72 = .ok (.iinc 4 1, 3) := by decide +kernel
theorem dX10_row_75 : decode cX10_row 75 = .ok (.goto (-23), 3) := by decide +kernel
theorem dX10_row_78 : decode cX10_row 78 = .ok (.iconst 0, 1) := by decide +kernel
theorem dX10_row_79 : decode cX10_row 79 = .ok (.ireturn, 1) := by decide +kernel
theorem hd_yX10_row : yX10_row.cls = RX10 ∧ yX10_row.cls ≠ "java/lang/invoke/MethodHandle" ∧ yX10_row.cls ≠ "java/lang/invoke/VarHandle" ∧ (parseMethodDescriptor yX10_row.desc).map (fun d => d.parameters.length) = some 3 := by decide +kernel
def uX10_row : List Cond := List.cons (.code yX10_row cX10_row 5 (some .int)) (HAppend.hAppend ([.methodLink RX10 369 yX10_isSlot, .static yX10_isSlot, .initialized RX10, .constantLong RX10 375 (3), .methodLink RX10 82 yX10_in, .static yX10_in, .fieldLink RX10 65 "LuckyTicketModel" "many" "[I", .fieldLink RX10 68 "LuckyTicketModel" "width" "[I", .fieldLink RX10 71 "LuckyTicketModel" "numbers" "[J"] : List Cond) (HAppend.hAppend uX10_isSlot (HAppend.hAppend uX10_in wsX100)))
theorem iX10_row_X10 : ∀ w ∈ wsX100, w ∈ uX10_row := fun _ h => (List.mem_cons_of_mem _ (List.mem_append_right _ (List.mem_append_right _ (List.mem_append_right _ h))))
theorem guX10_row : GU uX10_row := gu_cons (gu_app (by decide +kernel) (gu_ap guX10_isSlot (gu_ap guX10_in gws_X10)))
theorem gX10_row__X10_isSlot_S369 : GoodIn uX10_row (va_wsS RX10 369 yX10_isSlot uX10_isSlot) := gin_S (List.mem_of_getElem? (i := 1) rfl) (List.mem_of_getElem? (i := 2) rfl) (List.mem_of_getElem? (i := 3) rfl) (fun _ h => (List.mem_cons_of_mem _ (List.mem_append_right _ (List.mem_append_left _ h)))) guX10_isSlot
theorem gX10_row__X10_in_S82 : GoodIn uX10_row (va_wsS RX10 82 yX10_in uX10_in) := gin_S (List.mem_of_getElem? (i := 5) rfl) (List.mem_of_getElem? (i := 6) rfl) (List.mem_of_getElem? (i := 3) rfl) (fun _ h => (List.mem_cons_of_mem _ (List.mem_append_right _ (List.mem_append_right _ (List.mem_append_left _ h))))) guX10_in
set_option maxHeartbeats 4000000 in
set_option maxRecDepth 100000 in
theorem kX10_row (l : Launch) (dC : Nat → ClassId) (dI : Nat → Nat → Nat) (o0 : Nat) (x_th : Int32) (mwo : Nat) (mim : Nat) (mhi : Nat) (mlu : Nat) (mtp : Nat) (x_td : Int32) (mfv : Nat) (x_sz : Int32) (x_at : Int32) (x_fr : Int32) (x_to : Int32) (x_va : Int32) (x_fk : Int32) (x_fp : Int32) (mfr : Nat) (mwt : Nat) (x_wt : Int32) (x_op : Int32) (x_jo : Int32) (mfg : Nat) (mpl : Nat) (x_dr : Int64) (mtm : Nat) (mfa : Nat) (mqu : Nat) (mmo : Nat) (mwy : Nat) (mwn : Nat) (mma : Nat) (mwi : Nat) (mnu : Nat) (mmv : Nat) (c_ma : ClassId) (c_wi : ClassId) (c_nu : ClassId) (w_ma : Nat → Int32) (w_wi : Nat → Int32) (w_nu : Nat → Int64) (a1 : Int32) (a2 : Int32) (a3 : Int32) (sz : Nat) (ha_mma : rg w_ma 4 (-1) 60) (ha_mwi : rg w_wi 4 0 3) : Met l yX10_row uX10_row ({ frames := 2, cells := 0, slots := 0, locals := 45 }) (va_Pc [.ref o0, .int a1, .int a2, .int a3] (hw (dC, dI) vwCl [(o0, .inr (8, [.int x_th, .ref mwo, .ref mim, .ref mhi, .ref mlu, .ref mtp, .int x_td, .ref mfv, .int x_sz, .int x_at, .int x_fr, .int x_to, .int x_va, .int x_fk, .int x_fp, .ref mfr, .ref mwt, .int x_wt, .int x_op, .int x_jo, .ref mfg, .ref mpl, .long x_dr, .ref mtm, .ref mfa, .ref mqu, .ref mmo, .ref mwy, .ref mwn, .ref mma, .ref mwi, .ref mnu, .ref mmv])), (mma, .inl (c_ma, 4, .inl w_ma)), (mwi, .inl (c_wi, 4, .inl w_wi)), (mnu, .inl (c_nu, 240, .inr (.inl w_nu)))] [(c_ma, .int), (c_wi, .int), (c_nu, .long)] sz)) (va_Qi (fun (r : Int32) (_ : Unit) => ((-3 : Int) ≤ r.toInt ∧ r.toInt ≤ 0)) (fun (_ : Unit) t => ∃ (o0_ : Nat → Int32) (o1_ : Nat → Int32) (o2_ : Nat → Int64), (rg o0_ 4 (-1) 60) ∧ (rg o1_ 4 0 3) ∧ va_P (dC, dI) vwCl [(o0, .inr (8, [.int x_th, .ref mwo, .ref mim, .ref mhi, .ref mlu, .ref mtp, .int x_td, .ref mfv, .int x_sz, .int x_at, .int x_fr, .int x_to, .int x_va, .int x_fk, .int x_fp, .ref mfr, .ref mwt, .int x_wt, .int x_op, .int x_jo, .ref mfg, .ref mpl, .long x_dr, .ref mtm, .ref mfa, .ref mqu, .ref mmo, .ref mwy, .ref mwn, .ref mma, .ref mwi, .ref mnu, .ref mmv])), (mma, .inl (c_ma, 4, .inl o0_)), (mwi, .inl (c_wi, 4, .inl o1_)), (mnu, .inl (c_nu, 240, .inr (.inl o2_)))] t.heap ∧ va_K (dC, dI) vwCl [(c_ma, .int), (c_wi, .int), (c_nu, .long)] t ∧ va_D (va_A [(o0, .inr (8, [.int x_th, .ref mwo, .ref mim, .ref mhi, .ref mlu, .ref mtp, .int x_td, .ref mfv, .int x_sz, .int x_at, .int x_fr, .int x_to, .int x_va, .int x_fk, .int x_fp, .ref mfr, .ref mwt, .int x_wt, .int x_op, .int x_jo, .ref mfg, .ref mpl, .long x_dr, .ref mtm, .ref mfa, .ref mqu, .ref mmo, .ref mwy, .ref mwn, .ref mma, .ref mwi, .ref mnu, .ref mmv])), (mma, .inl (c_ma, 4, .inl w_ma)), (mwi, .inl (c_wi, 4, .inl w_wi)), (mnu, .inl (c_nu, 240, .inr (.inl w_nu)))] sz) [(o0, .inr (8, [.int x_th, .ref mwo, .ref mim, .ref mhi, .ref mlu, .ref mtp, .int x_td, .ref mfv, .int x_sz, .int x_at, .int x_fr, .int x_to, .int x_va, .int x_fk, .int x_fp, .ref mfr, .ref mwt, .int x_wt, .int x_op, .int x_jo, .ref mfg, .ref mpl, .long x_dr, .ref mtm, .ref mfa, .ref mqu, .ref mmo, .ref mwy, .ref mwn, .ref mma, .ref mwi, .ref mnu, .ref mmv])), (mma, .inl (c_ma, 4, .inl o0_)), (mwi, .inl (c_wi, 4, .inl o1_)), (mnu, .inl (c_nu, 240, .inr (.inl o2_)))]) (va_A [(o0, .inr (8, [.int x_th, .ref mwo, .ref mim, .ref mhi, .ref mlu, .ref mtp, .int x_td, .ref mfv, .int x_sz, .int x_at, .int x_fr, .int x_to, .int x_va, .int x_fk, .int x_fp, .ref mfr, .ref mwt, .int x_wt, .int x_op, .int x_jo, .ref mfg, .ref mpl, .long x_dr, .ref mtm, .ref mfa, .ref mqu, .ref mmo, .ref mwy, .ref mwn, .ref mma, .ref mwi, .ref mnu, .ref mmv])), (mma, .inl (c_ma, 4, .inl w_ma)), (mwi, .inl (c_wi, 4, .inl w_wi)), (mnu, .inl (c_nu, 240, .inr (.inl w_nu)))] sz)) 0 0 (va_A [(o0, .inr (8, [.int x_th, .ref mwo, .ref mim, .ref mhi, .ref mlu, .ref mtp, .int x_td, .ref mfv, .int x_sz, .int x_at, .int x_fr, .int x_to, .int x_va, .int x_fk, .int x_fp, .ref mfr, .ref mwt, .int x_wt, .int x_op, .int x_jo, .ref mfg, .ref mpl, .long x_dr, .ref mtm, .ref mfa, .ref mqu, .ref mmo, .ref mwy, .ref mwn, .ref mma, .ref mwi, .ref mnu, .ref mmv])), (mma, .inl (c_ma, 4, .inl w_ma)), (mwi, .inl (c_wi, 4, .inl w_wi)), (mnu, .inl (c_nu, 240, .inr (.inl w_nu)))] sz) := by
  refine Met.ofW (cc := cX10_row) (maxL := 5) (ret := (some .int)) pn_X10 rfl ?_
  intro p e s m args below meth c s₁ B hml hv
  obtain ⟨rfl, hsz, hP, hK, hD0, hN⟩ := hv
  have hx := B.exec
  have hb := B.bytes
  have hr := B.returns
  have hts := atoms_spec (ws := uX10_row) B.pre
  have hown : s.vm.findClass RX10 = some m.cls := hown_of B.named rfl
  have hlocks := B.notSynchronized
  subst hsz
  have hD := hD0.self (sz := s.heap.size)
  generalize hAe : va_A [(o0, .inr (8, [.int x_th, .ref mwo, .ref mim, .ref mhi, .ref mlu, .ref mtp, .int x_td, .ref mfv, .int x_sz, .int x_at, .int x_fr, .int x_to, .int x_va, .int x_fk, .int x_fp, .ref mfr, .ref mwt, .int x_wt, .int x_op, .int x_jo, .ref mfg, .ref mpl, .long x_dr, .ref mtm, .ref mfa, .ref mqu, .ref mmo, .ref mwy, .ref mwn, .ref mma, .ref mwi, .ref mnu, .ref mmv])), (mma, .inl (c_ma, 4, .inl w_ma)), (mwi, .inl (c_wi, 4, .inl w_wi)), (mnu, .inl (c_nu, 240, .inr (.inl w_nu)))] s.heap.size = A at hD ⊢
  have hA : ∀ q : Nat, s.heap.size ≤ q → A q := fun q h => by rw [← hAe]; exact Or.inr h
  have hS : va_S A s.heap s.heap [] := va_S.rf
  have hP : va_P (dC, dI) vwCl [(o0, .inr (8, [.int x_th, .ref mwo, .ref mim, .ref mhi, .ref mlu, .ref mtp, .int x_td, .ref mfv, .int x_sz, .int x_at, .int x_fr, .int x_to, .int x_va, .int x_fk, .int x_fp, .ref mfr, .ref mwt, .int x_wt, .int x_op, .int x_jo, .ref mfg, .ref mpl, .long x_dr, .ref mtm, .ref mfa, .ref mqu, .ref mmo, .ref mwy, .ref mwn, .ref mma, .ref mwi, .ref mnu, .ref mmv])), (mma, .inl (c_ma, 4, .inl w_ma)), (mwi, .inl (c_wi, 4, .inl w_wi)), (mnu, .inl (c_nu, 240, .inr (.inl w_nu)))] s.heap := hP
  have hl := lv_entry ([.ref o0, .int a1, .int a2, .int a3]) (n := 5) (Nat.le_of_ble_eq_true rfl)
  rw [lg_entry_eq]
  generalize (lg_sl ([.ref o0, .int a1, .int a2, .int a3]) ++ List.replicate (5 - (lg_sl ([.ref o0, .int a1, .int a2, .int a3])).length) Slot.unset).toArray = ls at hl ⊢
  have hl : lv_has ls 5 [(0, .ref o0), (1, .int a1), (2, .int a2), (3, .int a3)] := hl
  refine lv_iload_n hx hb dX10_row_0 rfl (lv_at hl 1 rfl) ?_
  refine vp_callSi (W.runS (As := [.int a1]) (rest := []) ⟨hx, hb, hml, hown, hts⟩ (kX10_isSlot l dC dI a1 ) (va_cwS 1 hts gX10_row__X10_isSlot_S369 rfl rfl rfl hd_yX10_isSlot.2 ⟨lel 2 2 rfl, lel 45 45 rfl⟩) ⟨pn_fb, pn_use⟩ rfl rfl hl.1 rfl (lv_room (Nat.le_of_ble_eq_true rfl)) dX10_row_1 ⟨lel 0 0 rfl, lel 0 0 rfl⟩) (fun r_51 h_r_51 => ?_)
  obtain ⟨b_r_51, nz_r_51⟩ := h_r_51
  have b_r_51 : (0 : Int) ≤ r_51.toInt ∧ r_51.toInt ≤ 1 := b_r_51
  refine lv_if_eq (tgt := 25) hx hb dX10_row_4 (by decide) (fun c_52 => ?_) (fun c_52 => ?_)
  ·
    have n_c_52 : (r_51.toInt : Int) = 0 := c_eq rfl (by decide) c_52
    have b_r_51 : (0 : Int) ≤ r_51.toInt ∧ r_51.toInt ≤ 0 := r_eq1 b_r_51 (by decide : (0 : Int) ≤ (0 : Int32).toInt ∧ (0 : Int32).toInt ≤ 0) n_c_52 (by decide)
    refine lv_bipush (v := (-2)) hx hb dX10_row_25 (by decide) ?_
    have hP9 := hP.sub (ws' := [(o0, .inr (8, [.int x_th, .ref mwo, .ref mim, .ref mhi, .ref mlu, .ref mtp, .int x_td, .ref mfv, .int x_sz, .int x_at, .int x_fr, .int x_to, .int x_va, .int x_fk, .int x_fp, .ref mfr, .ref mwt, .int x_wt, .int x_op, .int x_jo, .ref mfg, .ref mpl, .long x_dr, .ref mtm, .ref mfa, .ref mqu, .ref mmo, .ref mwy, .ref mwn, .ref mma, .ref mwi, .ref mnu, .ref mmv])), (mma, .inl (c_ma, 4, .inl w_ma)), (mwi, .inl (c_wi, 4, .inl w_wi)), (mnu, .inl (c_nu, 240, .inr (.inl w_nu)))]) [0, 1, 2, 3] rfl
    have hD9 := hD.sub (ws' := [(o0, .inr (8, [.int x_th, .ref mwo, .ref mim, .ref mhi, .ref mlu, .ref mtp, .int x_td, .ref mfv, .int x_sz, .int x_at, .int x_fr, .int x_to, .int x_va, .int x_fk, .int x_fp, .ref mfr, .ref mwt, .int x_wt, .int x_op, .int x_jo, .ref mfg, .ref mpl, .long x_dr, .ref mtm, .ref mfa, .ref mqu, .ref mmo, .ref mwy, .ref mwn, .ref mma, .ref mwi, .ref mnu, .ref mmv])), (mma, .inl (c_ma, 4, .inl w_ma)), (mwi, .inl (c_wi, 4, .inl w_wi)), (mnu, .inl (c_nu, 240, .inr (.inl w_nu)))]) [0, 1, 2, 3] (by decide) rfl
    have hK9 := hK.sub (tys' := [(c_ma, .int), (c_wi, .int), (c_nu, .long)]) [0, 1, 2] rfl
    exact W.iret (v := (-2)) hx hb hr (fun t ht hW => ⟨⟨(-2), (), rfl, (rg_w (by decide : (-2 : Int) ≤ ((-2) : Int32).toInt ∧ ((-2) : Int32).toInt ≤ -2) (by decide) (by decide)), w_ma, w_wi, w_nu, ha_mma, ha_mwi, by rw [ht]; exact hP9, va_K.moved hW.alike hK9, hD9⟩, hS.F ht⟩) hS.2.2 dX10_row_27
  ·
    have n_c_52 : (r_51.toInt : Int) ≠ 0 := c_ne rfl (by decide) c_52
    have b_r_51 : (1 : Int) ≤ r_51.toInt ∧ r_51.toInt ≤ 1 := r_ne1 b_r_51 (by decide : (0 : Int) ≤ (0 : Int32).toInt ∧ (0 : Int32).toInt ≤ 0) n_c_52 (by decide)
    obtain ⟨b_a1, g_53⟩ := nz_r_51 c_52
    refine lv_iload_n hx hb dX10_row_7 rfl (lv_at hl 2 rfl) ?_
    obtain ⟨z_54, e_z_54⟩ : ∃ y : Int64, y = a2.toInt64 := ⟨_, rfl⟩
    refine lv_i2l (v := z_54) hx hb dX10_row_8 e_z_54.symm ?_
    obtain ⟨q_z_54, b_z_54⟩ := ti_i2l e_z_54 (ti_rng a2)
    refine lv_lconst (v := 0) hx hb dX10_row_9 (by decide) ?_
    refine lv_ldc2 (v := 3) hx hb hown (hts (.constantLong RX10 375 (3)) (List.mem_of_getElem? (i := 4) rfl)) dX10_row_10 ?_
    refine vp_callSi (W.runS (As := [.long z_54, .long 0, .long 3]) (rest := []) ⟨hx, hb, hml, hown, hts⟩ (kX10_in l dC dI z_54 0 3 ) (va_cwS 3 hts gX10_row__X10_in_S82 rfl rfl rfl hd_yX10_in.2 ⟨lel 1 2 rfl, lel 25 45 rfl⟩) ⟨pn_fb, pn_use⟩ rfl rfl hl.1 rfl (lv_room (Nat.le_of_ble_eq_true rfl)) dX10_row_13 ⟨lel 0 0 rfl, lel 0 0 rfl⟩) (fun r_55 h_r_55 => ?_)
    obtain ⟨b_r_55, nz_r_55⟩ := h_r_55
    have b_r_55 : (0 : Int) ≤ r_55.toInt ∧ r_55.toInt ≤ 1 := b_r_55
    refine lv_if_eq (tgt := 25) hx hb dX10_row_16 (by decide) (fun c_56 => ?_) (fun c_56 => ?_)
    ·
      have n_c_56 : (r_55.toInt : Int) = 0 := c_eq rfl (by decide) c_56
      have b_r_55 : (0 : Int) ≤ r_55.toInt ∧ r_55.toInt ≤ 0 := r_eq1 b_r_55 (by decide : (0 : Int) ≤ (0 : Int32).toInt ∧ (0 : Int32).toInt ≤ 0) n_c_56 (by decide)
      refine lv_bipush (v := (-2)) hx hb dX10_row_25 (by decide) ?_
      have hP9 := hP.sub (ws' := [(o0, .inr (8, [.int x_th, .ref mwo, .ref mim, .ref mhi, .ref mlu, .ref mtp, .int x_td, .ref mfv, .int x_sz, .int x_at, .int x_fr, .int x_to, .int x_va, .int x_fk, .int x_fp, .ref mfr, .ref mwt, .int x_wt, .int x_op, .int x_jo, .ref mfg, .ref mpl, .long x_dr, .ref mtm, .ref mfa, .ref mqu, .ref mmo, .ref mwy, .ref mwn, .ref mma, .ref mwi, .ref mnu, .ref mmv])), (mma, .inl (c_ma, 4, .inl w_ma)), (mwi, .inl (c_wi, 4, .inl w_wi)), (mnu, .inl (c_nu, 240, .inr (.inl w_nu)))]) [0, 1, 2, 3] rfl
      have hD9 := hD.sub (ws' := [(o0, .inr (8, [.int x_th, .ref mwo, .ref mim, .ref mhi, .ref mlu, .ref mtp, .int x_td, .ref mfv, .int x_sz, .int x_at, .int x_fr, .int x_to, .int x_va, .int x_fk, .int x_fp, .ref mfr, .ref mwt, .int x_wt, .int x_op, .int x_jo, .ref mfg, .ref mpl, .long x_dr, .ref mtm, .ref mfa, .ref mqu, .ref mmo, .ref mwy, .ref mwn, .ref mma, .ref mwi, .ref mnu, .ref mmv])), (mma, .inl (c_ma, 4, .inl w_ma)), (mwi, .inl (c_wi, 4, .inl w_wi)), (mnu, .inl (c_nu, 240, .inr (.inl w_nu)))]) [0, 1, 2, 3] (by decide) rfl
      have hK9 := hK.sub (tys' := [(c_ma, .int), (c_wi, .int), (c_nu, .long)]) [0, 1, 2] rfl
      exact W.iret (v := (-2)) hx hb hr (fun t ht hW => ⟨⟨(-2), (), rfl, (rg_w (by decide : (-2 : Int) ≤ ((-2) : Int32).toInt ∧ ((-2) : Int32).toInt ≤ -2) (by decide) (by decide)), w_ma, w_wi, w_nu, ha_mma, ha_mwi, by rw [ht]; exact hP9, va_K.moved hW.alike hK9, hD9⟩, hS.F ht⟩) hS.2.2 dX10_row_27
    ·
      have n_c_56 : (r_55.toInt : Int) ≠ 0 := c_ne rfl (by decide) c_56
      have b_r_55 : (1 : Int) ≤ r_55.toInt ∧ r_55.toInt ≤ 1 := r_ne1 b_r_55 (by decide : (0 : Int) ≤ (0 : Int32).toInt ∧ (0 : Int32).toInt ≤ 0) n_c_56 (by decide)
      have g_57 := nz_r_55 c_56
      have lt0_g_57 := (by decide : (0 : Int64).toInt = 0)
      have lt1_g_57 := (by decide : (3 : Int64).toInt = 3)
      have b_z_54 : (0 : Int) ≤ z_54.toInt ∧ z_54.toInt ≤ 3 := by
        have q0 := b_z_54
        have q1 := (by decide : (0 : Int) ≤ (0 : Int64).toInt ∧ (0 : Int64).toInt ≤ 0)
        have q2 := (by decide : (3 : Int) ≤ (3 : Int64).toInt ∧ (3 : Int64).toInt ≤ 3)
        omega
      have b_a2 : (0 : Int) ≤ a2.toInt ∧ a2.toInt ≤ 3 := by
        have q0 := b_z_54; have q1 := q_z_54; have q2 := (ti_rng a2); omega
      refine lv_iload_n hx hb dX10_row_19 rfl (lv_at hl 3 rfl) ?_
      refine lv_bipush (v := 60) hx hb dX10_row_20 (by decide) ?_
      refine lv_icmp_le (tgt := 28) hx hb dX10_row_22 (by decide) (fun c_58 => ?_) (fun c_58 => ?_)
      ·
        have n_c_58 : (a3.toInt : Int) ≤ 60 := c_le rfl (by decide) c_58
        have b_a3 : (-2147483648 : Int) ≤ a3.toInt ∧ a3.toInt ≤ 60 := r_le1 (ti_rng a3) (by decide : (60 : Int) ≤ (60 : Int32).toInt ∧ (60 : Int32).toInt ≤ 60) n_c_58 (by decide)
        refine lv_iload_n hx hb dX10_row_28 rfl (lv_at hl 3 rfl) ?_
        refine lv_if_ge (tgt := 35) hx hb dX10_row_29 (by decide) (fun c_59 => ?_) (fun c_59 => ?_)
        ·
          have n_c_59 : (0 : Int) ≤ a3.toInt := c_ge rfl (by decide) c_59
          have b_a3 : (0 : Int) ≤ a3.toInt ∧ a3.toInt ≤ 60 := r_le2 (by decide : (0 : Int) ≤ (0 : Int32).toInt ∧ (0 : Int32).toInt ≤ 0) b_a3 n_c_59 (by decide)
          refine lv_aload_n hx hb dX10_row_35 rfl (lv_at hl 0 rfl) ?_
          refine va_get (D := (dC, dI)) (ci := 8) (v := .ref mma) (C := RX10) (T := TX10) (N := 33) hx hb hts iX10_row_X10 hown hK hP 0 rfl rfl 29 (by decide) (hts (.fieldLink RX10 65 "LuckyTicketModel" "many" "[I") (List.mem_of_getElem? (i := 7) rfl)) (fun _ h9 => h9) rfl dX10_row_36 ?_
          refine lv_iload_n hx hb dX10_row_39 rfl (lv_at hl 1 rfl) ?_
          refine lv_iload_n hx hb dX10_row_40 rfl (lv_at hl 3 rfl) ?_
          refine va_iast hx hb hK hP hD hS 1 0 rfl rfl (vp_in_b b_a1 (by decide) (by decide)) dX10_row_41 (fun H locs hP hD hS => ?_)
          have hP : va_P (dC, dI) vwCl [(o0, .inr (8, [.int x_th, .ref mwo, .ref mim, .ref mhi, .ref mlu, .ref mtp, .int x_td, .ref mfv, .int x_sz, .int x_at, .int x_fr, .int x_to, .int x_va, .int x_fk, .int x_fp, .ref mfr, .ref mwt, .int x_wt, .int x_op, .int x_jo, .ref mfg, .ref mpl, .long x_dr, .ref mtm, .ref mfa, .ref mqu, .ref mmo, .ref mwy, .ref mwn, .ref mma, .ref mwi, .ref mnu, .ref mmv])), (mma, .inl (c_ma, 4, .inl (upd w_ma (a1 : Int32).toNatClampNeg a3))), (mwi, .inl (c_wi, 4, .inl w_wi)), (mnu, .inl (c_nu, 240, .inr (.inl w_nu)))] H := hP
          have hD : va_D A [(o0, .inr (8, [.int x_th, .ref mwo, .ref mim, .ref mhi, .ref mlu, .ref mtp, .int x_td, .ref mfv, .int x_sz, .int x_at, .int x_fr, .int x_to, .int x_va, .int x_fk, .int x_fp, .ref mfr, .ref mwt, .int x_wt, .int x_op, .int x_jo, .ref mfg, .ref mpl, .long x_dr, .ref mtm, .ref mfa, .ref mqu, .ref mmo, .ref mwy, .ref mwn, .ref mma, .ref mwi, .ref mnu, .ref mmv])), (mma, .inl (c_ma, 4, .inl (upd w_ma (a1 : Int32).toNatClampNeg a3))), (mwi, .inl (c_wi, 4, .inl w_wi)), (mnu, .inl (c_nu, 240, .inr (.inl w_nu)))] := hD
          have ha_61 : rg (upd w_ma (a1 : Int32).toNatClampNeg a3) 4 (-1) 60 := rg_upd ha_mma (rg_w b_a3 (by decide) (by decide))
          generalize (upd w_ma (a1 : Int32).toNatClampNeg a3) = f_60 at hP hD ha_61
          have hP : va_P (dC, dI) vwCl [(o0, .inr (8, [.int x_th, .ref mwo, .ref mim, .ref mhi, .ref mlu, .ref mtp, .int x_td, .ref mfv, .int x_sz, .int x_at, .int x_fr, .int x_to, .int x_va, .int x_fk, .int x_fp, .ref mfr, .ref mwt, .int x_wt, .int x_op, .int x_jo, .ref mfg, .ref mpl, .long x_dr, .ref mtm, .ref mfa, .ref mqu, .ref mmo, .ref mwy, .ref mwn, .ref mma, .ref mwi, .ref mnu, .ref mmv])), (mma, .inl (c_ma, 4, .inl f_60)), (mwi, .inl (c_wi, 4, .inl w_wi)), (mnu, .inl (c_nu, 240, .inr (.inl w_nu)))] H := hP
          have hD : va_D A [(o0, .inr (8, [.int x_th, .ref mwo, .ref mim, .ref mhi, .ref mlu, .ref mtp, .int x_td, .ref mfv, .int x_sz, .int x_at, .int x_fr, .int x_to, .int x_va, .int x_fk, .int x_fp, .ref mfr, .ref mwt, .int x_wt, .int x_op, .int x_jo, .ref mfg, .ref mpl, .long x_dr, .ref mtm, .ref mfa, .ref mqu, .ref mmo, .ref mwy, .ref mwn, .ref mma, .ref mwi, .ref mnu, .ref mmv])), (mma, .inl (c_ma, 4, .inl f_60)), (mwi, .inl (c_wi, 4, .inl w_wi)), (mnu, .inl (c_nu, 240, .inr (.inl w_nu)))] := hD
          refine lv_aload_n hx hb dX10_row_42 rfl (lv_at hl 0 rfl) ?_
          refine va_get (D := (dC, dI)) (ci := 8) (v := .ref mwi) (C := RX10) (T := TX10) (N := 33) hx hb hts iX10_row_X10 hown hK hP 0 rfl rfl 30 (by decide) (hts (.fieldLink RX10 68 "LuckyTicketModel" "width" "[I") (List.mem_of_getElem? (i := 8) rfl)) (fun _ h9 => h9) rfl dX10_row_43 ?_
          refine lv_iload_n hx hb dX10_row_46 rfl (lv_at hl 1 rfl) ?_
          refine lv_iload_n hx hb dX10_row_47 rfl (lv_at hl 2 rfl) ?_
          refine va_iast hx hb hK hP hD hS 2 1 rfl rfl (vp_in_b b_a1 (by decide) (by decide)) dX10_row_48 (fun H locs hP hD hS => ?_)
          have hP : va_P (dC, dI) vwCl [(o0, .inr (8, [.int x_th, .ref mwo, .ref mim, .ref mhi, .ref mlu, .ref mtp, .int x_td, .ref mfv, .int x_sz, .int x_at, .int x_fr, .int x_to, .int x_va, .int x_fk, .int x_fp, .ref mfr, .ref mwt, .int x_wt, .int x_op, .int x_jo, .ref mfg, .ref mpl, .long x_dr, .ref mtm, .ref mfa, .ref mqu, .ref mmo, .ref mwy, .ref mwn, .ref mma, .ref mwi, .ref mnu, .ref mmv])), (mma, .inl (c_ma, 4, .inl f_60)), (mwi, .inl (c_wi, 4, .inl (upd w_wi (a1 : Int32).toNatClampNeg a2))), (mnu, .inl (c_nu, 240, .inr (.inl w_nu)))] H := hP
          have hD : va_D A [(o0, .inr (8, [.int x_th, .ref mwo, .ref mim, .ref mhi, .ref mlu, .ref mtp, .int x_td, .ref mfv, .int x_sz, .int x_at, .int x_fr, .int x_to, .int x_va, .int x_fk, .int x_fp, .ref mfr, .ref mwt, .int x_wt, .int x_op, .int x_jo, .ref mfg, .ref mpl, .long x_dr, .ref mtm, .ref mfa, .ref mqu, .ref mmo, .ref mwy, .ref mwn, .ref mma, .ref mwi, .ref mnu, .ref mmv])), (mma, .inl (c_ma, 4, .inl f_60)), (mwi, .inl (c_wi, 4, .inl (upd w_wi (a1 : Int32).toNatClampNeg a2))), (mnu, .inl (c_nu, 240, .inr (.inl w_nu)))] := hD
          have ha_63 : rg (upd w_wi (a1 : Int32).toNatClampNeg a2) 4 0 3 := rg_upd ha_mwi b_a2
          generalize (upd w_wi (a1 : Int32).toNatClampNeg a2) = f_62 at hP hD ha_63
          have hP : va_P (dC, dI) vwCl [(o0, .inr (8, [.int x_th, .ref mwo, .ref mim, .ref mhi, .ref mlu, .ref mtp, .int x_td, .ref mfv, .int x_sz, .int x_at, .int x_fr, .int x_to, .int x_va, .int x_fk, .int x_fp, .ref mfr, .ref mwt, .int x_wt, .int x_op, .int x_jo, .ref mfg, .ref mpl, .long x_dr, .ref mtm, .ref mfa, .ref mqu, .ref mmo, .ref mwy, .ref mwn, .ref mma, .ref mwi, .ref mnu, .ref mmv])), (mma, .inl (c_ma, 4, .inl f_60)), (mwi, .inl (c_wi, 4, .inl f_62)), (mnu, .inl (c_nu, 240, .inr (.inl w_nu)))] H := hP
          have hD : va_D A [(o0, .inr (8, [.int x_th, .ref mwo, .ref mim, .ref mhi, .ref mlu, .ref mtp, .int x_td, .ref mfv, .int x_sz, .int x_at, .int x_fr, .int x_to, .int x_va, .int x_fk, .int x_fp, .ref mfr, .ref mwt, .int x_wt, .int x_op, .int x_jo, .ref mfg, .ref mpl, .long x_dr, .ref mtm, .ref mfa, .ref mqu, .ref mmo, .ref mwy, .ref mwn, .ref mma, .ref mwi, .ref mnu, .ref mmv])), (mma, .inl (c_ma, 4, .inl f_60)), (mwi, .inl (c_wi, 4, .inl f_62)), (mnu, .inl (c_nu, 240, .inr (.inl w_nu)))] := hD
          refine lv_iconst (v := 0) hx hb dX10_row_49 (by decide) ?_
          refine lv_istore (lv' := [(4, .int 0), (0, .ref o0), (1, .int a1), (2, .int a2), (3, .int a3)]) hx hb dX10_row_50 hl (by decide) rfl (fun ls hl => ?_)
          refine loopW (σ := Int32 × (Nat → Int64)) (fun v => (60 - v.1.toInt).toNat) (fun v H locs ls => ((0 : Int) ≤ v.1.toInt ∧ v.1.toInt ≤ 60) ∧ va_P (dC, dI) vwCl [(o0, .inr (8, [.int x_th, .ref mwo, .ref mim, .ref mhi, .ref mlu, .ref mtp, .int x_td, .ref mfv, .int x_sz, .int x_at, .int x_fr, .int x_to, .int x_va, .int x_fk, .int x_fp, .ref mfr, .ref mwt, .int x_wt, .int x_op, .int x_jo, .ref mfg, .ref mpl, .long x_dr, .ref mtm, .ref mfa, .ref mqu, .ref mmo, .ref mwy, .ref mwn, .ref mma, .ref mwi, .ref mnu, .ref mmv])), (mma, .inl (c_ma, 4, .inl f_60)), (mwi, .inl (c_wi, 4, .inl f_62)), (mnu, .inl (c_nu, 240, .inr (.inl v.2)))] H ∧ va_D A [(o0, .inr (8, [.int x_th, .ref mwo, .ref mim, .ref mhi, .ref mlu, .ref mtp, .int x_td, .ref mfv, .int x_sz, .int x_at, .int x_fr, .int x_to, .int x_va, .int x_fk, .int x_fp, .ref mfr, .ref mwt, .int x_wt, .int x_op, .int x_jo, .ref mfg, .ref mpl, .long x_dr, .ref mtm, .ref mfa, .ref mqu, .ref mmo, .ref mwy, .ref mwn, .ref mma, .ref mwi, .ref mnu, .ref mmv])), (mma, .inl (c_ma, 4, .inl f_60)), (mwi, .inl (c_wi, 4, .inl f_62)), (mnu, .inl (c_nu, 240, .inr (.inl v.2)))] ∧ va_S A s.heap H locs ∧ lv_has ls 5 [(4, .int v.1), (0, .ref o0), (1, .int a1), (2, .int a2), (3, .int a3)]) (fun v H locs ls hI ih_52_95 => ?_) ((0 : Int32), w_nu) ⟨(show (0 : Int) ≤ (0 : Int32).toInt ∧ (0 : Int32).toInt ≤ 60 from (rg_w (by decide : (0 : Int) ≤ (0 : Int32).toInt ∧ (0 : Int32).toInt ≤ 0) (by decide) (by decide))), hP, hD, hS, lv_sub hl [0, 1, 2, 3, 4] rfl⟩
          obtain ⟨y_69, f_70⟩ := v
          obtain ⟨b_y_69, hP, hD, hS, hl⟩ := hI
          have b_y_69 : (0 : Int) ≤ y_69.toInt ∧ y_69.toInt ≤ 60 := b_y_69
          have hP : va_P (dC, dI) vwCl [(o0, .inr (8, [.int x_th, .ref mwo, .ref mim, .ref mhi, .ref mlu, .ref mtp, .int x_td, .ref mfv, .int x_sz, .int x_at, .int x_fr, .int x_to, .int x_va, .int x_fk, .int x_fp, .ref mfr, .ref mwt, .int x_wt, .int x_op, .int x_jo, .ref mfg, .ref mpl, .long x_dr, .ref mtm, .ref mfa, .ref mqu, .ref mmo, .ref mwy, .ref mwn, .ref mma, .ref mwi, .ref mnu, .ref mmv])), (mma, .inl (c_ma, 4, .inl f_60)), (mwi, .inl (c_wi, 4, .inl f_62)), (mnu, .inl (c_nu, 240, .inr (.inl f_70)))] H := hP
          have hD : va_D A [(o0, .inr (8, [.int x_th, .ref mwo, .ref mim, .ref mhi, .ref mlu, .ref mtp, .int x_td, .ref mfv, .int x_sz, .int x_at, .int x_fr, .int x_to, .int x_va, .int x_fk, .int x_fp, .ref mfr, .ref mwt, .int x_wt, .int x_op, .int x_jo, .ref mfg, .ref mpl, .long x_dr, .ref mtm, .ref mfa, .ref mqu, .ref mmo, .ref mwy, .ref mwn, .ref mma, .ref mwi, .ref mnu, .ref mmv])), (mma, .inl (c_ma, 4, .inl f_60)), (mwi, .inl (c_wi, 4, .inl f_62)), (mnu, .inl (c_nu, 240, .inr (.inl f_70)))] := hD
          have hl : lv_has ls 5 [(4, .int y_69), (0, .ref o0), (1, .int a1), (2, .int a2), (3, .int a3)] := hl
          refine lv_iload hx hb dX10_row_52 (lv_at hl 0 rfl) ?_
          refine lv_bipush (v := 60) hx hb dX10_row_54 (by decide) ?_
          refine lv_icmp_ge (tgt := 78) hx hb dX10_row_56 (by decide) (fun c_96 => ?_) (fun c_96 => ?_)
          ·
            have n_c_96 : (60 : Int) ≤ y_69.toInt := c_ge rfl (by decide) c_96
            have b_y_69 : (60 : Int) ≤ y_69.toInt ∧ y_69.toInt ≤ 60 := r_le2 (by decide : (60 : Int) ≤ (60 : Int32).toInt ∧ (60 : Int32).toInt ≤ 60) b_y_69 n_c_96 (by decide)
            refine lv_iconst (v := 0) hx hb dX10_row_78 (by decide) ?_
            have hP9 := hP.sub (ws' := [(o0, .inr (8, [.int x_th, .ref mwo, .ref mim, .ref mhi, .ref mlu, .ref mtp, .int x_td, .ref mfv, .int x_sz, .int x_at, .int x_fr, .int x_to, .int x_va, .int x_fk, .int x_fp, .ref mfr, .ref mwt, .int x_wt, .int x_op, .int x_jo, .ref mfg, .ref mpl, .long x_dr, .ref mtm, .ref mfa, .ref mqu, .ref mmo, .ref mwy, .ref mwn, .ref mma, .ref mwi, .ref mnu, .ref mmv])), (mma, .inl (c_ma, 4, .inl f_60)), (mwi, .inl (c_wi, 4, .inl f_62)), (mnu, .inl (c_nu, 240, .inr (.inl f_70)))]) [0, 1, 2, 3] rfl
            have hD9 := hD.sub (ws' := [(o0, .inr (8, [.int x_th, .ref mwo, .ref mim, .ref mhi, .ref mlu, .ref mtp, .int x_td, .ref mfv, .int x_sz, .int x_at, .int x_fr, .int x_to, .int x_va, .int x_fk, .int x_fp, .ref mfr, .ref mwt, .int x_wt, .int x_op, .int x_jo, .ref mfg, .ref mpl, .long x_dr, .ref mtm, .ref mfa, .ref mqu, .ref mmo, .ref mwy, .ref mwn, .ref mma, .ref mwi, .ref mnu, .ref mmv])), (mma, .inl (c_ma, 4, .inl f_60)), (mwi, .inl (c_wi, 4, .inl f_62)), (mnu, .inl (c_nu, 240, .inr (.inl f_70)))]) [0, 1, 2, 3] (by decide) rfl
            have hK9 := hK.sub (tys' := [(c_ma, .int), (c_wi, .int), (c_nu, .long)]) [0, 1, 2] rfl
            exact W.iret (v := 0) hx hb hr (fun t ht hW => ⟨⟨0, (), rfl, (rg_w (by decide : (0 : Int) ≤ (0 : Int32).toInt ∧ (0 : Int32).toInt ≤ 0) (by decide) (by decide)), f_60, f_62, f_70, ha_61, ha_63, by rw [ht]; exact hP9, va_K.moved hW.alike hK9, hD9⟩, hS.F ht⟩) hS.2.2 dX10_row_79
          ·
            have n_c_96 : (y_69.toInt : Int) < 60 := c_nge rfl (by decide) c_96
            have b_y_69 : (0 : Int) ≤ y_69.toInt ∧ y_69.toInt ≤ 59 := r_lt1 b_y_69 (by decide : (60 : Int) ≤ (60 : Int32).toInt ∧ (60 : Int32).toInt ≤ 60) n_c_96 (by decide)
            refine lv_aload_n hx hb dX10_row_59 rfl (lv_at hl 1 rfl) ?_
            refine va_get (D := (dC, dI)) (ci := 8) (v := .ref mnu) (C := RX10) (T := TX10) (N := 33) hx hb hts iX10_row_X10 hown hK hP 0 rfl rfl 31 (by decide) (hts (.fieldLink RX10 71 "LuckyTicketModel" "numbers" "[J") (List.mem_of_getElem? (i := 9) rfl)) (fun _ h9 => h9) rfl dX10_row_60 ?_
            refine lv_bipush (v := 60) hx hb dX10_row_63 (by decide) ?_
            refine lv_iload_n hx hb dX10_row_65 rfl (lv_at hl 2 rfl) ?_
            refine lv_imul hx hb dX10_row_66 ?_
            refine lv_topi (fun z_97 e_z_97 => ?_)
            obtain ⟨q_z_97, b_z_97⟩ := ti_mul (lo := 0) (hi := 180) e_z_97 (by decide : (60 : Int32).toInt = 60) rfl (by decide : (60 : Int) ≤ (60 : Int32).toInt ∧ (60 : Int32).toInt ≤ 60) b_a1 (by decide)
            refine lv_iload hx hb dX10_row_67 (lv_at hl 0 rfl) ?_
            refine lv_iadd hx hb dX10_row_69 ?_
            refine lv_topi (fun z_98 e_z_98 => ?_)
            obtain ⟨q_z_98, b_z_98⟩ := ti_add (lo := 0) (hi := 239) e_z_98 rfl rfl b_z_97 b_y_69 (by decide)
            refine lv_lconst (v := 0) hx hb dX10_row_70 (by decide) ?_
            refine va_last hx hb hK hP hD hS 3 2 rfl rfl (vp_in_b b_z_98 (by decide) (by decide)) dX10_row_71 (fun H locs hP hD hS => ?_)
            have hP : va_P (dC, dI) vwCl [(o0, .inr (8, [.int x_th, .ref mwo, .ref mim, .ref mhi, .ref mlu, .ref mtp, .int x_td, .ref mfv, .int x_sz, .int x_at, .int x_fr, .int x_to, .int x_va, .int x_fk, .int x_fp, .ref mfr, .ref mwt, .int x_wt, .int x_op, .int x_jo, .ref mfg, .ref mpl, .long x_dr, .ref mtm, .ref mfa, .ref mqu, .ref mmo, .ref mwy, .ref mwn, .ref mma, .ref mwi, .ref mnu, .ref mmv])), (mma, .inl (c_ma, 4, .inl f_60)), (mwi, .inl (c_wi, 4, .inl f_62)), (mnu, .inl (c_nu, 240, .inr (.inl (vp_updL f_70 (z_98 : Int32).toNatClampNeg 0))))] H := hP
            have hD : va_D A [(o0, .inr (8, [.int x_th, .ref mwo, .ref mim, .ref mhi, .ref mlu, .ref mtp, .int x_td, .ref mfv, .int x_sz, .int x_at, .int x_fr, .int x_to, .int x_va, .int x_fk, .int x_fp, .ref mfr, .ref mwt, .int x_wt, .int x_op, .int x_jo, .ref mfg, .ref mpl, .long x_dr, .ref mtm, .ref mfa, .ref mqu, .ref mmo, .ref mwy, .ref mwn, .ref mma, .ref mwi, .ref mnu, .ref mmv])), (mma, .inl (c_ma, 4, .inl f_60)), (mwi, .inl (c_wi, 4, .inl f_62)), (mnu, .inl (c_nu, 240, .inr (.inl (vp_updL f_70 (z_98 : Int32).toNatClampNeg 0))))] := hD
            generalize (vp_updL f_70 (z_98 : Int32).toNatClampNeg 0) = f_99 at hP hD
            have hP : va_P (dC, dI) vwCl [(o0, .inr (8, [.int x_th, .ref mwo, .ref mim, .ref mhi, .ref mlu, .ref mtp, .int x_td, .ref mfv, .int x_sz, .int x_at, .int x_fr, .int x_to, .int x_va, .int x_fk, .int x_fp, .ref mfr, .ref mwt, .int x_wt, .int x_op, .int x_jo, .ref mfg, .ref mpl, .long x_dr, .ref mtm, .ref mfa, .ref mqu, .ref mmo, .ref mwy, .ref mwn, .ref mma, .ref mwi, .ref mnu, .ref mmv])), (mma, .inl (c_ma, 4, .inl f_60)), (mwi, .inl (c_wi, 4, .inl f_62)), (mnu, .inl (c_nu, 240, .inr (.inl f_99)))] H := hP
            have hD : va_D A [(o0, .inr (8, [.int x_th, .ref mwo, .ref mim, .ref mhi, .ref mlu, .ref mtp, .int x_td, .ref mfv, .int x_sz, .int x_at, .int x_fr, .int x_to, .int x_va, .int x_fk, .int x_fp, .ref mfr, .ref mwt, .int x_wt, .int x_op, .int x_jo, .ref mfg, .ref mpl, .long x_dr, .ref mtm, .ref mfa, .ref mqu, .ref mmo, .ref mwy, .ref mwn, .ref mma, .ref mwi, .ref mnu, .ref mmv])), (mma, .inl (c_ma, 4, .inl f_60)), (mwi, .inl (c_wi, 4, .inl f_62)), (mnu, .inl (c_nu, 240, .inr (.inl f_99)))] := hD
            obtain ⟨z_100, e_z_100⟩ : ∃ y : Int32, y = y_69 + 1 := ⟨_, rfl⟩
            refine lv_iinc (v := z_100) (lv' := [(4, .int z_100), (0, .ref o0), (1, .int a1), (2, .int a2), (3, .int a3)]) hx hb dX10_row_72 hl (k := 0) rfl (by rw [e_z_100]; rfl) (by decide) rfl (fun ls hl => ?_)
            obtain ⟨q_z_100, b_z_100⟩ := ti_add (lo := 1) (hi := 60) e_z_100 rfl (by decide : (1 : Int32).toInt = 1) b_y_69 (by decide : (1 : Int) ≤ (1 : Int32).toInt ∧ (1 : Int32).toInt ≤ 1) (by decide)
            refine lv_goto (tgt := 52) hx hb dX10_row_75 (by decide) ?_
            exact ih_52_95 (z_100, f_99) _ _ _ ⟨(show (0 : Int) ≤ z_100.toInt ∧ z_100.toInt ≤ 60 from (rg_w b_z_100 (by decide) (by decide))), hP, hD, hS, lv_sub hl [0, 1, 2, 3, 4] rfl⟩ (show (60 - z_100.toInt).toNat < (60 - y_69.toInt).toNat by omega)
        ·
          have n_c_59 : (a3.toInt : Int) < 0 := c_nge rfl (by decide) c_59
          have b_a3 : (-2147483648 : Int) ≤ a3.toInt ∧ a3.toInt ≤ -1 := r_lt1 b_a3 (by decide : (0 : Int) ≤ (0 : Int32).toInt ∧ (0 : Int32).toInt ≤ 0) n_c_59 (by decide)
          refine lv_bipush (v := (-3)) hx hb dX10_row_32 (by decide) ?_
          have hP9 := hP.sub (ws' := [(o0, .inr (8, [.int x_th, .ref mwo, .ref mim, .ref mhi, .ref mlu, .ref mtp, .int x_td, .ref mfv, .int x_sz, .int x_at, .int x_fr, .int x_to, .int x_va, .int x_fk, .int x_fp, .ref mfr, .ref mwt, .int x_wt, .int x_op, .int x_jo, .ref mfg, .ref mpl, .long x_dr, .ref mtm, .ref mfa, .ref mqu, .ref mmo, .ref mwy, .ref mwn, .ref mma, .ref mwi, .ref mnu, .ref mmv])), (mma, .inl (c_ma, 4, .inl w_ma)), (mwi, .inl (c_wi, 4, .inl w_wi)), (mnu, .inl (c_nu, 240, .inr (.inl w_nu)))]) [0, 1, 2, 3] rfl
          have hD9 := hD.sub (ws' := [(o0, .inr (8, [.int x_th, .ref mwo, .ref mim, .ref mhi, .ref mlu, .ref mtp, .int x_td, .ref mfv, .int x_sz, .int x_at, .int x_fr, .int x_to, .int x_va, .int x_fk, .int x_fp, .ref mfr, .ref mwt, .int x_wt, .int x_op, .int x_jo, .ref mfg, .ref mpl, .long x_dr, .ref mtm, .ref mfa, .ref mqu, .ref mmo, .ref mwy, .ref mwn, .ref mma, .ref mwi, .ref mnu, .ref mmv])), (mma, .inl (c_ma, 4, .inl w_ma)), (mwi, .inl (c_wi, 4, .inl w_wi)), (mnu, .inl (c_nu, 240, .inr (.inl w_nu)))]) [0, 1, 2, 3] (by decide) rfl
          have hK9 := hK.sub (tys' := [(c_ma, .int), (c_wi, .int), (c_nu, .long)]) [0, 1, 2] rfl
          exact W.iret (v := (-3)) hx hb hr (fun t ht hW => ⟨⟨(-3), (), rfl, (rg_w (by decide : (-3 : Int) ≤ ((-3) : Int32).toInt ∧ ((-3) : Int32).toInt ≤ -3) (by decide) (by decide)), w_ma, w_wi, w_nu, ha_mma, ha_mwi, by rw [ht]; exact hP9, va_K.moved hW.alike hK9, hD9⟩, hS.F ht⟩) hS.2.2 dX10_row_34
      ·
        have n_c_58 : (60 : Int) < a3.toInt := c_nle rfl (by decide) c_58
        have b_a3 : (61 : Int) ≤ a3.toInt ∧ a3.toInt ≤ 2147483647 := r_lt2 (by decide : (60 : Int) ≤ (60 : Int32).toInt ∧ (60 : Int32).toInt ≤ 60) (ti_rng a3) n_c_58 (by decide)
        refine lv_bipush (v := (-2)) hx hb dX10_row_25 (by decide) ?_
        have hP9 := hP.sub (ws' := [(o0, .inr (8, [.int x_th, .ref mwo, .ref mim, .ref mhi, .ref mlu, .ref mtp, .int x_td, .ref mfv, .int x_sz, .int x_at, .int x_fr, .int x_to, .int x_va, .int x_fk, .int x_fp, .ref mfr, .ref mwt, .int x_wt, .int x_op, .int x_jo, .ref mfg, .ref mpl, .long x_dr, .ref mtm, .ref mfa, .ref mqu, .ref mmo, .ref mwy, .ref mwn, .ref mma, .ref mwi, .ref mnu, .ref mmv])), (mma, .inl (c_ma, 4, .inl w_ma)), (mwi, .inl (c_wi, 4, .inl w_wi)), (mnu, .inl (c_nu, 240, .inr (.inl w_nu)))]) [0, 1, 2, 3] rfl
        have hD9 := hD.sub (ws' := [(o0, .inr (8, [.int x_th, .ref mwo, .ref mim, .ref mhi, .ref mlu, .ref mtp, .int x_td, .ref mfv, .int x_sz, .int x_at, .int x_fr, .int x_to, .int x_va, .int x_fk, .int x_fp, .ref mfr, .ref mwt, .int x_wt, .int x_op, .int x_jo, .ref mfg, .ref mpl, .long x_dr, .ref mtm, .ref mfa, .ref mqu, .ref mmo, .ref mwy, .ref mwn, .ref mma, .ref mwi, .ref mnu, .ref mmv])), (mma, .inl (c_ma, 4, .inl w_ma)), (mwi, .inl (c_wi, 4, .inl w_wi)), (mnu, .inl (c_nu, 240, .inr (.inl w_nu)))]) [0, 1, 2, 3] (by decide) rfl
        have hK9 := hK.sub (tys' := [(c_ma, .int), (c_wi, .int), (c_nu, .long)]) [0, 1, 2] rfl
        exact W.iret (v := (-2)) hx hb hr (fun t ht hW => ⟨⟨(-2), (), rfl, (rg_w (by decide : (-2 : Int) ≤ ((-2) : Int32).toInt ∧ ((-2) : Int32).toInt ≤ -2) (by decide) (by decide)), w_ma, w_wi, w_nu, ha_mma, ha_mwi, by rw [ht]; exact hP9, va_K.moved hW.alike hK9, hD9⟩, hS.F ht⟩) hS.2.2 dX10_row_27
theorem dX10_write_0 : decode cX10_write 0 = .ok (.iload_n 1, 1) := by decide +kernel
theorem dX10_write_1 : decode cX10_write 1 = .ok (.invokestatic 369, 3) := by decide +kernel
theorem dX10_write_4 : decode cX10_write 4 = .ok (.ifCond .ne 6, 3) := by decide +kernel
theorem dX10_write_7 : decode cX10_write 7 = .ok (.bipush (-2), 2) := by decide +kernel
theorem dX10_write_9 : decode cX10_write 9 = .ok (.ireturn, 1) := by decide +kernel
theorem dX10_write_10 : decode cX10_write 10 = .ok (.aload_n 0, 1) := by decide +kernel
theorem dX10_write_11 : decode cX10_write 11 = .ok (.getfield 65, 3) := by decide +kernel
theorem dX10_write_14 : decode cX10_write 14 = .ok (.iload_n 1, 1) := by decide +kernel
theorem dX10_write_15 : decode cX10_write 15 = .ok (.iaload, 1) := by decide +kernel
theorem dX10_write_16 : decode cX10_write 16 = .ok (.iconst (-1), 1) := by decide +kernel
theorem dX10_write_17 : decode cX10_write 17 = .ok (.if_icmp .ne 6, 3) := by decide +kernel
theorem dX10_write_20 : decode cX10_write 20 = .ok (.bipush (-6), 2) := by decide +kernel
theorem dX10_write_22 : decode cX10_write 22 = .ok (.ireturn, 1) := by decide +kernel
theorem dX10_write_23 : decode cX10_write 23 = .ok (.iload_n 2, 1) := by decide +kernel
theorem dX10_write_24 : decode cX10_write 24 = .ok (.i2l, 1) := by decide +kernel
theorem dX10_write_25 : decode cX10_write 25 = .ok (.lconst 0, 1) := by decide +kernel
theorem dX10_write_26 : decode cX10_write 26 = .ok (.aload_n 0, 1) := by decide +kernel
theorem dX10_write_27 : decode cX10_write 27 = .ok (.getfield 65, 3) := by decide +kernel
theorem dX10_write_30 : decode cX10_write 30 = .ok (.iload_n 1, 1) := by decide +kernel
theorem dX10_write_31 : decode cX10_write 31 = .ok (.iaload, 1) := by decide +kernel
theorem dX10_write_32 : decode cX10_write 32 = .ok (.iconst 1, 1) := by decide +kernel
theorem dX10_write_33 : decode cX10_write 33 = .ok (.isub, 1) := by decide +kernel
theorem dX10_write_34 : decode cX10_write 34 = .ok (.i2l, 1) := by decide +kernel
theorem dX10_write_35 : decode cX10_write 35 = .ok (.invokestatic 82, 3) := by decide +kernel
theorem dX10_write_38 : decode cX10_write 38 = .ok (.ifCond .ne 6, 3) := by decide +kernel
theorem dX10_write_41 : decode cX10_write 41 = .ok (.bipush (-7), 2) := by decide +kernel
theorem dX10_write_43 : decode cX10_write 43 = .ok (.ireturn, 1) := by decide +kernel
theorem dX10_write_44 : decode cX10_write 44 = .ok (.aload_n 0, 1) := by decide +kernel
theorem dX10_write_45 : decode cX10_write 45 = .ok (.getfield 71, 3) := by decide +kernel
theorem dX10_write_48 : decode cX10_write 48 = .ok (.bipush 60, 2) := by decide +kernel
theorem dX10_write_50 : decode cX10_write 50 = .ok (.iload_n 1, 1) := by decide +kernel
theorem dX10_write_51 : decode cX10_write 51 = .ok (.imul, 1) := by decide +kernel
theorem dX10_write_52 : decode cX10_write 52 = .ok (.iload_n 2, 1) := by decide +kernel
theorem dX10_write_53 : decode cX10_write 53 = .ok (.iadd, 1) := by decide +kernel
theorem dX10_write_54 : decode cX10_write 54 = .ok (.lload_n 3, 1) := by decide +kernel
theorem dX10_write_55 : decode cX10_write 55 = .ok (.aload_n 0, 1) := by decide +kernel
theorem dX10_write_56 : decode cX10_write 56 = .ok (.getfield 68, 3) := by decide +kernel
theorem dX10_write_59 : decode cX10_write 59 = .ok (.iload_n 1, 1) := by decide +kernel
theorem dX10_write_60 : decode cX10_write 60 = .ok (.iaload, 1) := by decide +kernel
theorem dX10_write_61 : decode cX10_write 61 = .ok (.invokestatic 467, 3) := by decide +kernel
theorem dX10_write_64 : decode cX10_write 64 = .ok (.lastore, 1) := by decide +kernel
theorem dX10_write_65 : decode cX10_write 65 = .ok (.iconst 0, 1) := by decide +kernel
theorem dX10_write_66 : decode cX10_write 66 = .ok (.ireturn, 1) := by decide +kernel
theorem hd_yX10_write : yX10_write.cls = RX10 ∧ yX10_write.cls ≠ "java/lang/invoke/MethodHandle" ∧ yX10_write.cls ≠ "java/lang/invoke/VarHandle" ∧ (parseMethodDescriptor yX10_write.desc).map (fun d => d.parameters.length) = some 3 := by decide +kernel
def uX10_write : List Cond := List.cons (.code yX10_write cX10_write 5 (some .int)) (HAppend.hAppend ([.methodLink RX10 369 yX10_isSlot, .static yX10_isSlot, .initialized RX10, .fieldLink RX10 65 "LuckyTicketModel" "many" "[I", .methodLink RX10 82 yX10_in, .static yX10_in, .fieldLink RX10 71 "LuckyTicketModel" "numbers" "[J", .fieldLink RX10 68 "LuckyTicketModel" "width" "[I", .methodLink RX10 467 yX10_cut, .static yX10_cut] : List Cond) (HAppend.hAppend uX10_isSlot (HAppend.hAppend uX10_in (HAppend.hAppend uX10_cut wsX100))))
theorem iX10_write_X10 : ∀ w ∈ wsX100, w ∈ uX10_write := fun _ h => (List.mem_cons_of_mem _ (List.mem_append_right _ (List.mem_append_right _ (List.mem_append_right _ (List.mem_append_right _ h)))))
theorem guX10_write : GU uX10_write := gu_cons (gu_app (by decide +kernel) (gu_ap guX10_isSlot (gu_ap guX10_in (gu_ap guX10_cut gws_X10))))
theorem gX10_write__X10_isSlot_S369 : GoodIn uX10_write (va_wsS RX10 369 yX10_isSlot uX10_isSlot) := gin_S (List.mem_of_getElem? (i := 1) rfl) (List.mem_of_getElem? (i := 2) rfl) (List.mem_of_getElem? (i := 3) rfl) (fun _ h => (List.mem_cons_of_mem _ (List.mem_append_right _ (List.mem_append_left _ h)))) guX10_isSlot
theorem gX10_write__X10_in_S82 : GoodIn uX10_write (va_wsS RX10 82 yX10_in uX10_in) := gin_S (List.mem_of_getElem? (i := 5) rfl) (List.mem_of_getElem? (i := 6) rfl) (List.mem_of_getElem? (i := 3) rfl) (fun _ h => (List.mem_cons_of_mem _ (List.mem_append_right _ (List.mem_append_right _ (List.mem_append_left _ h))))) guX10_in
theorem gX10_write__X10_cut_S467 : GoodIn uX10_write (va_wsS RX10 467 yX10_cut uX10_cut) := gin_S (List.mem_of_getElem? (i := 9) rfl) (List.mem_of_getElem? (i := 10) rfl) (List.mem_of_getElem? (i := 3) rfl) (fun _ h => (List.mem_cons_of_mem _ (List.mem_append_right _ (List.mem_append_right _ (List.mem_append_right _ (List.mem_append_left _ h)))))) guX10_cut
set_option maxHeartbeats 4000000 in
set_option maxRecDepth 100000 in
theorem kX10_write (l : Launch) (dC : Nat → ClassId) (dI : Nat → Nat → Nat) (o0 : Nat) (x_th : Int32) (mwo : Nat) (mim : Nat) (mhi : Nat) (mlu : Nat) (mtp : Nat) (x_td : Int32) (mfv : Nat) (x_sz : Int32) (x_at : Int32) (x_fr : Int32) (x_to : Int32) (x_va : Int32) (x_fk : Int32) (x_fp : Int32) (mfr : Nat) (mwt : Nat) (x_wt : Int32) (x_op : Int32) (x_jo : Int32) (mfg : Nat) (mpl : Nat) (x_dr : Int64) (mtm : Nat) (mfa : Nat) (mqu : Nat) (mmo : Nat) (mwy : Nat) (mwn : Nat) (mma : Nat) (mwi : Nat) (mnu : Nat) (mmv : Nat) (c_ma : ClassId) (c_wi : ClassId) (c_nu : ClassId) (w_ma : Nat → Int32) (w_wi : Nat → Int32) (w_nu : Nat → Int64) (a1 : Int32) (a2 : Int32) (a3 : Int64) (sz : Nat) (ha_mma : rg w_ma 4 (-1) 60) (ha_mwi : rg w_wi 4 0 3) : Met l yX10_write uX10_write ({ frames := 2, cells := 0, slots := 0, locals := 45 }) (va_Pc [.ref o0, .int a1, .int a2, .long a3] (hw (dC, dI) vwCl [(o0, .inr (8, [.int x_th, .ref mwo, .ref mim, .ref mhi, .ref mlu, .ref mtp, .int x_td, .ref mfv, .int x_sz, .int x_at, .int x_fr, .int x_to, .int x_va, .int x_fk, .int x_fp, .ref mfr, .ref mwt, .int x_wt, .int x_op, .int x_jo, .ref mfg, .ref mpl, .long x_dr, .ref mtm, .ref mfa, .ref mqu, .ref mmo, .ref mwy, .ref mwn, .ref mma, .ref mwi, .ref mnu, .ref mmv])), (mma, .inl (c_ma, 4, .inl w_ma)), (mwi, .inl (c_wi, 4, .inl w_wi)), (mnu, .inl (c_nu, 240, .inr (.inl w_nu)))] [(c_ma, .int), (c_wi, .int), (c_nu, .long)] sz)) (va_Qi (fun (r : Int32) (_ : Unit) => ((-7 : Int) ≤ r.toInt ∧ r.toInt ≤ 0)) (fun (_ : Unit) t => ∃ (o0_ : Nat → Int64), va_P (dC, dI) vwCl [(o0, .inr (8, [.int x_th, .ref mwo, .ref mim, .ref mhi, .ref mlu, .ref mtp, .int x_td, .ref mfv, .int x_sz, .int x_at, .int x_fr, .int x_to, .int x_va, .int x_fk, .int x_fp, .ref mfr, .ref mwt, .int x_wt, .int x_op, .int x_jo, .ref mfg, .ref mpl, .long x_dr, .ref mtm, .ref mfa, .ref mqu, .ref mmo, .ref mwy, .ref mwn, .ref mma, .ref mwi, .ref mnu, .ref mmv])), (mma, .inl (c_ma, 4, .inl w_ma)), (mwi, .inl (c_wi, 4, .inl w_wi)), (mnu, .inl (c_nu, 240, .inr (.inl o0_)))] t.heap ∧ va_K (dC, dI) vwCl [(c_ma, .int), (c_wi, .int), (c_nu, .long)] t ∧ va_D (va_A [(o0, .inr (8, [.int x_th, .ref mwo, .ref mim, .ref mhi, .ref mlu, .ref mtp, .int x_td, .ref mfv, .int x_sz, .int x_at, .int x_fr, .int x_to, .int x_va, .int x_fk, .int x_fp, .ref mfr, .ref mwt, .int x_wt, .int x_op, .int x_jo, .ref mfg, .ref mpl, .long x_dr, .ref mtm, .ref mfa, .ref mqu, .ref mmo, .ref mwy, .ref mwn, .ref mma, .ref mwi, .ref mnu, .ref mmv])), (mma, .inl (c_ma, 4, .inl w_ma)), (mwi, .inl (c_wi, 4, .inl w_wi)), (mnu, .inl (c_nu, 240, .inr (.inl w_nu)))] sz) [(o0, .inr (8, [.int x_th, .ref mwo, .ref mim, .ref mhi, .ref mlu, .ref mtp, .int x_td, .ref mfv, .int x_sz, .int x_at, .int x_fr, .int x_to, .int x_va, .int x_fk, .int x_fp, .ref mfr, .ref mwt, .int x_wt, .int x_op, .int x_jo, .ref mfg, .ref mpl, .long x_dr, .ref mtm, .ref mfa, .ref mqu, .ref mmo, .ref mwy, .ref mwn, .ref mma, .ref mwi, .ref mnu, .ref mmv])), (mma, .inl (c_ma, 4, .inl w_ma)), (mwi, .inl (c_wi, 4, .inl w_wi)), (mnu, .inl (c_nu, 240, .inr (.inl o0_)))]) (va_A [(o0, .inr (8, [.int x_th, .ref mwo, .ref mim, .ref mhi, .ref mlu, .ref mtp, .int x_td, .ref mfv, .int x_sz, .int x_at, .int x_fr, .int x_to, .int x_va, .int x_fk, .int x_fp, .ref mfr, .ref mwt, .int x_wt, .int x_op, .int x_jo, .ref mfg, .ref mpl, .long x_dr, .ref mtm, .ref mfa, .ref mqu, .ref mmo, .ref mwy, .ref mwn, .ref mma, .ref mwi, .ref mnu, .ref mmv])), (mma, .inl (c_ma, 4, .inl w_ma)), (mwi, .inl (c_wi, 4, .inl w_wi)), (mnu, .inl (c_nu, 240, .inr (.inl w_nu)))] sz)) 0 0 (va_A [(o0, .inr (8, [.int x_th, .ref mwo, .ref mim, .ref mhi, .ref mlu, .ref mtp, .int x_td, .ref mfv, .int x_sz, .int x_at, .int x_fr, .int x_to, .int x_va, .int x_fk, .int x_fp, .ref mfr, .ref mwt, .int x_wt, .int x_op, .int x_jo, .ref mfg, .ref mpl, .long x_dr, .ref mtm, .ref mfa, .ref mqu, .ref mmo, .ref mwy, .ref mwn, .ref mma, .ref mwi, .ref mnu, .ref mmv])), (mma, .inl (c_ma, 4, .inl w_ma)), (mwi, .inl (c_wi, 4, .inl w_wi)), (mnu, .inl (c_nu, 240, .inr (.inl w_nu)))] sz) := by
  refine Met.ofW (cc := cX10_write) (maxL := 5) (ret := (some .int)) pn_X10 rfl ?_
  intro p e s m args below meth c s₁ B hml hv
  obtain ⟨rfl, hsz, hP, hK, hD0, hN⟩ := hv
  have hx := B.exec
  have hb := B.bytes
  have hr := B.returns
  have hts := atoms_spec (ws := uX10_write) B.pre
  have hown : s.vm.findClass RX10 = some m.cls := hown_of B.named rfl
  have hlocks := B.notSynchronized
  subst hsz
  have hD := hD0.self (sz := s.heap.size)
  generalize hAe : va_A [(o0, .inr (8, [.int x_th, .ref mwo, .ref mim, .ref mhi, .ref mlu, .ref mtp, .int x_td, .ref mfv, .int x_sz, .int x_at, .int x_fr, .int x_to, .int x_va, .int x_fk, .int x_fp, .ref mfr, .ref mwt, .int x_wt, .int x_op, .int x_jo, .ref mfg, .ref mpl, .long x_dr, .ref mtm, .ref mfa, .ref mqu, .ref mmo, .ref mwy, .ref mwn, .ref mma, .ref mwi, .ref mnu, .ref mmv])), (mma, .inl (c_ma, 4, .inl w_ma)), (mwi, .inl (c_wi, 4, .inl w_wi)), (mnu, .inl (c_nu, 240, .inr (.inl w_nu)))] s.heap.size = A at hD ⊢
  have hA : ∀ q : Nat, s.heap.size ≤ q → A q := fun q h => by rw [← hAe]; exact Or.inr h
  have hS : va_S A s.heap s.heap [] := va_S.rf
  have hP : va_P (dC, dI) vwCl [(o0, .inr (8, [.int x_th, .ref mwo, .ref mim, .ref mhi, .ref mlu, .ref mtp, .int x_td, .ref mfv, .int x_sz, .int x_at, .int x_fr, .int x_to, .int x_va, .int x_fk, .int x_fp, .ref mfr, .ref mwt, .int x_wt, .int x_op, .int x_jo, .ref mfg, .ref mpl, .long x_dr, .ref mtm, .ref mfa, .ref mqu, .ref mmo, .ref mwy, .ref mwn, .ref mma, .ref mwi, .ref mnu, .ref mmv])), (mma, .inl (c_ma, 4, .inl w_ma)), (mwi, .inl (c_wi, 4, .inl w_wi)), (mnu, .inl (c_nu, 240, .inr (.inl w_nu)))] s.heap := hP
  have hl := lv_entry ([.ref o0, .int a1, .int a2, .long a3]) (n := 5) (Nat.le_of_ble_eq_true rfl)
  rw [lg_entry_eq]
  generalize (lg_sl ([.ref o0, .int a1, .int a2, .long a3]) ++ List.replicate (5 - (lg_sl ([.ref o0, .int a1, .int a2, .long a3])).length) Slot.unset).toArray = ls at hl ⊢
  have hl : lv_has ls 5 [(0, .ref o0), (1, .int a1), (2, .int a2), (3, .long a3)] := hl
  refine lv_iload_n hx hb dX10_write_0 rfl (lv_at hl 1 rfl) ?_
  refine vp_callSi (W.runS (As := [.int a1]) (rest := []) ⟨hx, hb, hml, hown, hts⟩ (kX10_isSlot l dC dI a1 ) (va_cwS 1 hts gX10_write__X10_isSlot_S369 rfl rfl rfl hd_yX10_isSlot.2 ⟨lel 2 2 rfl, lel 45 45 rfl⟩) ⟨pn_fb, pn_use⟩ rfl rfl hl.1 rfl (lv_room (Nat.le_of_ble_eq_true rfl)) dX10_write_1 ⟨lel 0 0 rfl, lel 0 0 rfl⟩) (fun r_18 h_r_18 => ?_)
  obtain ⟨b_r_18, nz_r_18⟩ := h_r_18
  have b_r_18 : (0 : Int) ≤ r_18.toInt ∧ r_18.toInt ≤ 1 := b_r_18
  refine lv_if_ne (tgt := 10) hx hb dX10_write_4 (by decide) (fun c_19 => ?_) (fun c_19 => ?_)
  ·
    have n_c_19 : (r_18.toInt : Int) ≠ 0 := c_ne rfl (by decide) c_19
    have b_r_18 : (1 : Int) ≤ r_18.toInt ∧ r_18.toInt ≤ 1 := r_ne1 b_r_18 (by decide : (0 : Int) ≤ (0 : Int32).toInt ∧ (0 : Int32).toInt ≤ 0) n_c_19 (by decide)
    obtain ⟨b_a1, g_20⟩ := nz_r_18 c_19
    refine lv_aload_n hx hb dX10_write_10 rfl (lv_at hl 0 rfl) ?_
    refine va_get (D := (dC, dI)) (ci := 8) (v := .ref mma) (C := RX10) (T := TX10) (N := 33) hx hb hts iX10_write_X10 hown hK hP 0 rfl rfl 29 (by decide) (hts (.fieldLink RX10 65 "LuckyTicketModel" "many" "[I") (List.mem_of_getElem? (i := 4) rfl)) (fun _ h9 => h9) rfl dX10_write_11 ?_
    refine lv_iload_n hx hb dX10_write_14 rfl (lv_at hl 1 rfl) ?_
    refine va_iald hx hb hK hP 1 0 rfl rfl (vp_in_b b_a1 (by decide) (by decide)) dX10_write_15 ?_
    refine lv_topi (fun z_21 e_z_21 => ?_)
    have b_z_21 : (-1 : Int) ≤ z_21.toInt ∧ z_21.toInt ≤ 60 := rg_at ha_mma (vp_in_b b_a1 (by decide) (by decide)) e_z_21
    refine lv_iconst (v := (-1)) hx hb dX10_write_16 (by decide) ?_
    refine lv_icmp_ne (tgt := 23) hx hb dX10_write_17 (by decide) (fun c_22 => ?_) (fun c_22 => ?_)
    ·
      have n_c_22 : (z_21.toInt : Int) ≠ (-1) := c_ne rfl (by decide) c_22
      have b_z_21 : (0 : Int) ≤ z_21.toInt ∧ z_21.toInt ≤ 60 := r_ne1 b_z_21 (by decide : (-1 : Int) ≤ ((-1) : Int32).toInt ∧ ((-1) : Int32).toInt ≤ -1) n_c_22 (by decide)
      refine lv_iload_n hx hb dX10_write_23 rfl (lv_at hl 2 rfl) ?_
      obtain ⟨z_23, e_z_23⟩ : ∃ y : Int64, y = a2.toInt64 := ⟨_, rfl⟩
      refine lv_i2l (v := z_23) hx hb dX10_write_24 e_z_23.symm ?_
      obtain ⟨q_z_23, b_z_23⟩ := ti_i2l e_z_23 (ti_rng a2)
      refine lv_lconst (v := 0) hx hb dX10_write_25 (by decide) ?_
      refine lv_aload_n hx hb dX10_write_26 rfl (lv_at hl 0 rfl) ?_
      refine va_get (D := (dC, dI)) (ci := 8) (v := .ref mma) (C := RX10) (T := TX10) (N := 33) hx hb hts iX10_write_X10 hown hK hP 0 rfl rfl 29 (by decide) (hts (.fieldLink RX10 65 "LuckyTicketModel" "many" "[I") (List.mem_of_getElem? (i := 4) rfl)) (fun _ h9 => h9) rfl dX10_write_27 ?_
      refine lv_iload_n hx hb dX10_write_30 rfl (lv_at hl 1 rfl) ?_
      refine va_iald hx hb hK hP 1 0 rfl rfl (vp_in_b b_a1 (by decide) (by decide)) dX10_write_31 ?_
      refine lv_topi (fun z_24 e_z_24 => ?_)
      have b_z_24 : (-1 : Int) ≤ z_24.toInt ∧ z_24.toInt ≤ 60 := rg_at ha_mma (vp_in_b b_a1 (by decide) (by decide)) e_z_24
      refine lv_iconst (v := 1) hx hb dX10_write_32 (by decide) ?_
      refine lv_isub hx hb dX10_write_33 ?_
      refine lv_topi (fun z_25 e_z_25 => ?_)
      obtain ⟨q_z_25, b_z_25⟩ := ti_sub (lo := -2) (hi := 59) e_z_25 rfl (by decide : (1 : Int32).toInt = 1) b_z_24 (by decide : (1 : Int) ≤ (1 : Int32).toInt ∧ (1 : Int32).toInt ≤ 1) (by decide)
      obtain ⟨z_26, e_z_26⟩ : ∃ y : Int64, y = z_25.toInt64 := ⟨_, rfl⟩
      refine lv_i2l (v := z_26) hx hb dX10_write_34 e_z_26.symm ?_
      obtain ⟨q_z_26, b_z_26⟩ := ti_i2l e_z_26 b_z_25
      refine vp_callSi (W.runS (As := [.long z_23, .long 0, .long z_26]) (rest := []) ⟨hx, hb, hml, hown, hts⟩ (kX10_in l dC dI z_23 0 z_26 ) (va_cwS 3 hts gX10_write__X10_in_S82 rfl rfl rfl hd_yX10_in.2 ⟨lel 1 2 rfl, lel 25 45 rfl⟩) ⟨pn_fb, pn_use⟩ rfl rfl hl.1 rfl (lv_room (Nat.le_of_ble_eq_true rfl)) dX10_write_35 ⟨lel 0 0 rfl, lel 0 0 rfl⟩) (fun r_27 h_r_27 => ?_)
      obtain ⟨b_r_27, nz_r_27⟩ := h_r_27
      have b_r_27 : (0 : Int) ≤ r_27.toInt ∧ r_27.toInt ≤ 1 := b_r_27
      refine lv_if_ne (tgt := 44) hx hb dX10_write_38 (by decide) (fun c_28 => ?_) (fun c_28 => ?_)
      ·
        have n_c_28 : (r_27.toInt : Int) ≠ 0 := c_ne rfl (by decide) c_28
        have b_r_27 : (1 : Int) ≤ r_27.toInt ∧ r_27.toInt ≤ 1 := r_ne1 b_r_27 (by decide : (0 : Int) ≤ (0 : Int32).toInt ∧ (0 : Int32).toInt ≤ 0) n_c_28 (by decide)
        have g_29 := nz_r_27 c_28
        have lt0_g_29 := (by decide : (0 : Int64).toInt = 0)
        have b_z_23 : (0 : Int) ≤ z_23.toInt ∧ z_23.toInt ≤ 59 := by
          have q0 := b_z_23
          have q1 := (by decide : (0 : Int) ≤ (0 : Int64).toInt ∧ (0 : Int64).toInt ≤ 0)
          have q2 := b_z_26
          omega
        have b_a2 : (0 : Int) ≤ a2.toInt ∧ a2.toInt ≤ 59 := by
          have q0 := b_z_23; have q1 := q_z_23; have q2 := (ti_rng a2); omega
        refine lv_aload_n hx hb dX10_write_44 rfl (lv_at hl 0 rfl) ?_
        refine va_get (D := (dC, dI)) (ci := 8) (v := .ref mnu) (C := RX10) (T := TX10) (N := 33) hx hb hts iX10_write_X10 hown hK hP 0 rfl rfl 31 (by decide) (hts (.fieldLink RX10 71 "LuckyTicketModel" "numbers" "[J") (List.mem_of_getElem? (i := 7) rfl)) (fun _ h9 => h9) rfl dX10_write_45 ?_
        refine lv_bipush (v := 60) hx hb dX10_write_48 (by decide) ?_
        refine lv_iload_n hx hb dX10_write_50 rfl (lv_at hl 1 rfl) ?_
        refine lv_imul hx hb dX10_write_51 ?_
        refine lv_topi (fun z_30 e_z_30 => ?_)
        obtain ⟨q_z_30, b_z_30⟩ := ti_mul (lo := 0) (hi := 180) e_z_30 (by decide : (60 : Int32).toInt = 60) rfl (by decide : (60 : Int) ≤ (60 : Int32).toInt ∧ (60 : Int32).toInt ≤ 60) b_a1 (by decide)
        refine lv_iload_n hx hb dX10_write_52 rfl (lv_at hl 2 rfl) ?_
        refine lv_iadd hx hb dX10_write_53 ?_
        refine lv_topi (fun z_31 e_z_31 => ?_)
        obtain ⟨q_z_31, b_z_31⟩ := ti_add (lo := 0) (hi := 239) e_z_31 rfl rfl b_z_30 b_a2 (by decide)
        refine lv_lload_n hx hb dX10_write_54 rfl (lv_at hl 3 rfl) ?_
        refine lv_aload_n hx hb dX10_write_55 rfl (lv_at hl 0 rfl) ?_
        refine va_get (D := (dC, dI)) (ci := 8) (v := .ref mwi) (C := RX10) (T := TX10) (N := 33) hx hb hts iX10_write_X10 hown hK hP 0 rfl rfl 30 (by decide) (hts (.fieldLink RX10 68 "LuckyTicketModel" "width" "[I") (List.mem_of_getElem? (i := 8) rfl)) (fun _ h9 => h9) rfl dX10_write_56 ?_
        refine lv_iload_n hx hb dX10_write_59 rfl (lv_at hl 1 rfl) ?_
        refine va_iald hx hb hK hP 2 1 rfl rfl (vp_in_b b_a1 (by decide) (by decide)) dX10_write_60 ?_
        refine lv_topi (fun z_32 e_z_32 => ?_)
        have b_z_32 : (0 : Int) ≤ z_32.toInt ∧ z_32.toInt ≤ 3 := rg_at ha_mwi (vp_in_b b_a1 (by decide) (by decide)) e_z_32
        refine vp_callSl (W.runS (As := [.long a3, .int z_32]) (rest := [.int z_31, .ref mnu]) ⟨hx, hb, hml, hown, hts⟩ (kX10_cut l dC dI a3 z_32 ) (va_cwS 2 hts gX10_write__X10_cut_S467 rfl rfl rfl hd_yX10_cut.2 ⟨lel 1 2 rfl, lel 23 45 rfl⟩) ⟨pn_fb, pn_use⟩ rfl rfl hl.1 rfl (lv_room (Nat.le_of_ble_eq_true rfl)) dX10_write_61 ⟨lel 0 0 rfl, lel 0 0 rfl⟩) (fun r_33 h_r_33 => ?_)
        refine va_last hx hb hK hP hD hS 3 2 rfl rfl (vp_in_b b_z_31 (by decide) (by decide)) dX10_write_64 (fun H locs hP hD hS => ?_)
        have hP : va_P (dC, dI) vwCl [(o0, .inr (8, [.int x_th, .ref mwo, .ref mim, .ref mhi, .ref mlu, .ref mtp, .int x_td, .ref mfv, .int x_sz, .int x_at, .int x_fr, .int x_to, .int x_va, .int x_fk, .int x_fp, .ref mfr, .ref mwt, .int x_wt, .int x_op, .int x_jo, .ref mfg, .ref mpl, .long x_dr, .ref mtm, .ref mfa, .ref mqu, .ref mmo, .ref mwy, .ref mwn, .ref mma, .ref mwi, .ref mnu, .ref mmv])), (mma, .inl (c_ma, 4, .inl w_ma)), (mwi, .inl (c_wi, 4, .inl w_wi)), (mnu, .inl (c_nu, 240, .inr (.inl (vp_updL w_nu (z_31 : Int32).toNatClampNeg r_33))))] H := hP
        have hD : va_D A [(o0, .inr (8, [.int x_th, .ref mwo, .ref mim, .ref mhi, .ref mlu, .ref mtp, .int x_td, .ref mfv, .int x_sz, .int x_at, .int x_fr, .int x_to, .int x_va, .int x_fk, .int x_fp, .ref mfr, .ref mwt, .int x_wt, .int x_op, .int x_jo, .ref mfg, .ref mpl, .long x_dr, .ref mtm, .ref mfa, .ref mqu, .ref mmo, .ref mwy, .ref mwn, .ref mma, .ref mwi, .ref mnu, .ref mmv])), (mma, .inl (c_ma, 4, .inl w_ma)), (mwi, .inl (c_wi, 4, .inl w_wi)), (mnu, .inl (c_nu, 240, .inr (.inl (vp_updL w_nu (z_31 : Int32).toNatClampNeg r_33))))] := hD
        generalize (vp_updL w_nu (z_31 : Int32).toNatClampNeg r_33) = f_34 at hP hD
        have hP : va_P (dC, dI) vwCl [(o0, .inr (8, [.int x_th, .ref mwo, .ref mim, .ref mhi, .ref mlu, .ref mtp, .int x_td, .ref mfv, .int x_sz, .int x_at, .int x_fr, .int x_to, .int x_va, .int x_fk, .int x_fp, .ref mfr, .ref mwt, .int x_wt, .int x_op, .int x_jo, .ref mfg, .ref mpl, .long x_dr, .ref mtm, .ref mfa, .ref mqu, .ref mmo, .ref mwy, .ref mwn, .ref mma, .ref mwi, .ref mnu, .ref mmv])), (mma, .inl (c_ma, 4, .inl w_ma)), (mwi, .inl (c_wi, 4, .inl w_wi)), (mnu, .inl (c_nu, 240, .inr (.inl f_34)))] H := hP
        have hD : va_D A [(o0, .inr (8, [.int x_th, .ref mwo, .ref mim, .ref mhi, .ref mlu, .ref mtp, .int x_td, .ref mfv, .int x_sz, .int x_at, .int x_fr, .int x_to, .int x_va, .int x_fk, .int x_fp, .ref mfr, .ref mwt, .int x_wt, .int x_op, .int x_jo, .ref mfg, .ref mpl, .long x_dr, .ref mtm, .ref mfa, .ref mqu, .ref mmo, .ref mwy, .ref mwn, .ref mma, .ref mwi, .ref mnu, .ref mmv])), (mma, .inl (c_ma, 4, .inl w_ma)), (mwi, .inl (c_wi, 4, .inl w_wi)), (mnu, .inl (c_nu, 240, .inr (.inl f_34)))] := hD
        refine lv_iconst (v := 0) hx hb dX10_write_65 (by decide) ?_
        have hP9 := hP.sub (ws' := [(o0, .inr (8, [.int x_th, .ref mwo, .ref mim, .ref mhi, .ref mlu, .ref mtp, .int x_td, .ref mfv, .int x_sz, .int x_at, .int x_fr, .int x_to, .int x_va, .int x_fk, .int x_fp, .ref mfr, .ref mwt, .int x_wt, .int x_op, .int x_jo, .ref mfg, .ref mpl, .long x_dr, .ref mtm, .ref mfa, .ref mqu, .ref mmo, .ref mwy, .ref mwn, .ref mma, .ref mwi, .ref mnu, .ref mmv])), (mma, .inl (c_ma, 4, .inl w_ma)), (mwi, .inl (c_wi, 4, .inl w_wi)), (mnu, .inl (c_nu, 240, .inr (.inl f_34)))]) [0, 1, 2, 3] rfl
        have hD9 := hD.sub (ws' := [(o0, .inr (8, [.int x_th, .ref mwo, .ref mim, .ref mhi, .ref mlu, .ref mtp, .int x_td, .ref mfv, .int x_sz, .int x_at, .int x_fr, .int x_to, .int x_va, .int x_fk, .int x_fp, .ref mfr, .ref mwt, .int x_wt, .int x_op, .int x_jo, .ref mfg, .ref mpl, .long x_dr, .ref mtm, .ref mfa, .ref mqu, .ref mmo, .ref mwy, .ref mwn, .ref mma, .ref mwi, .ref mnu, .ref mmv])), (mma, .inl (c_ma, 4, .inl w_ma)), (mwi, .inl (c_wi, 4, .inl w_wi)), (mnu, .inl (c_nu, 240, .inr (.inl f_34)))]) [0, 1, 2, 3] (by decide) rfl
        have hK9 := hK.sub (tys' := [(c_ma, .int), (c_wi, .int), (c_nu, .long)]) [0, 1, 2] rfl
        exact W.iret (v := 0) hx hb hr (fun t ht hW => ⟨⟨0, (), rfl, (rg_w (by decide : (0 : Int) ≤ (0 : Int32).toInt ∧ (0 : Int32).toInt ≤ 0) (by decide) (by decide)), f_34, by rw [ht]; exact hP9, va_K.moved hW.alike hK9, hD9⟩, hS.F ht⟩) hS.2.2 dX10_write_66
      ·
        have n_c_28 : (r_27.toInt : Int) = 0 := c_eq rfl (by decide) c_28
        have b_r_27 : (0 : Int) ≤ r_27.toInt ∧ r_27.toInt ≤ 0 := r_eq1 b_r_27 (by decide : (0 : Int) ≤ (0 : Int32).toInt ∧ (0 : Int32).toInt ≤ 0) n_c_28 (by decide)
        refine lv_bipush (v := (-7)) hx hb dX10_write_41 (by decide) ?_
        have hP9 := hP.sub (ws' := [(o0, .inr (8, [.int x_th, .ref mwo, .ref mim, .ref mhi, .ref mlu, .ref mtp, .int x_td, .ref mfv, .int x_sz, .int x_at, .int x_fr, .int x_to, .int x_va, .int x_fk, .int x_fp, .ref mfr, .ref mwt, .int x_wt, .int x_op, .int x_jo, .ref mfg, .ref mpl, .long x_dr, .ref mtm, .ref mfa, .ref mqu, .ref mmo, .ref mwy, .ref mwn, .ref mma, .ref mwi, .ref mnu, .ref mmv])), (mma, .inl (c_ma, 4, .inl w_ma)), (mwi, .inl (c_wi, 4, .inl w_wi)), (mnu, .inl (c_nu, 240, .inr (.inl w_nu)))]) [0, 1, 2, 3] rfl
        have hD9 := hD.sub (ws' := [(o0, .inr (8, [.int x_th, .ref mwo, .ref mim, .ref mhi, .ref mlu, .ref mtp, .int x_td, .ref mfv, .int x_sz, .int x_at, .int x_fr, .int x_to, .int x_va, .int x_fk, .int x_fp, .ref mfr, .ref mwt, .int x_wt, .int x_op, .int x_jo, .ref mfg, .ref mpl, .long x_dr, .ref mtm, .ref mfa, .ref mqu, .ref mmo, .ref mwy, .ref mwn, .ref mma, .ref mwi, .ref mnu, .ref mmv])), (mma, .inl (c_ma, 4, .inl w_ma)), (mwi, .inl (c_wi, 4, .inl w_wi)), (mnu, .inl (c_nu, 240, .inr (.inl w_nu)))]) [0, 1, 2, 3] (by decide) rfl
        have hK9 := hK.sub (tys' := [(c_ma, .int), (c_wi, .int), (c_nu, .long)]) [0, 1, 2] rfl
        exact W.iret (v := (-7)) hx hb hr (fun t ht hW => ⟨⟨(-7), (), rfl, (rg_w (by decide : (-7 : Int) ≤ ((-7) : Int32).toInt ∧ ((-7) : Int32).toInt ≤ -7) (by decide) (by decide)), w_nu, by rw [ht]; exact hP9, va_K.moved hW.alike hK9, hD9⟩, hS.F ht⟩) hS.2.2 dX10_write_43
    ·
      have n_c_22 : (z_21.toInt : Int) = (-1) := c_eq rfl (by decide) c_22
      have b_z_21 : (-1 : Int) ≤ z_21.toInt ∧ z_21.toInt ≤ -1 := r_eq1 b_z_21 (by decide : (-1 : Int) ≤ ((-1) : Int32).toInt ∧ ((-1) : Int32).toInt ≤ -1) n_c_22 (by decide)
      refine lv_bipush (v := (-6)) hx hb dX10_write_20 (by decide) ?_
      have hP9 := hP.sub (ws' := [(o0, .inr (8, [.int x_th, .ref mwo, .ref mim, .ref mhi, .ref mlu, .ref mtp, .int x_td, .ref mfv, .int x_sz, .int x_at, .int x_fr, .int x_to, .int x_va, .int x_fk, .int x_fp, .ref mfr, .ref mwt, .int x_wt, .int x_op, .int x_jo, .ref mfg, .ref mpl, .long x_dr, .ref mtm, .ref mfa, .ref mqu, .ref mmo, .ref mwy, .ref mwn, .ref mma, .ref mwi, .ref mnu, .ref mmv])), (mma, .inl (c_ma, 4, .inl w_ma)), (mwi, .inl (c_wi, 4, .inl w_wi)), (mnu, .inl (c_nu, 240, .inr (.inl w_nu)))]) [0, 1, 2, 3] rfl
      have hD9 := hD.sub (ws' := [(o0, .inr (8, [.int x_th, .ref mwo, .ref mim, .ref mhi, .ref mlu, .ref mtp, .int x_td, .ref mfv, .int x_sz, .int x_at, .int x_fr, .int x_to, .int x_va, .int x_fk, .int x_fp, .ref mfr, .ref mwt, .int x_wt, .int x_op, .int x_jo, .ref mfg, .ref mpl, .long x_dr, .ref mtm, .ref mfa, .ref mqu, .ref mmo, .ref mwy, .ref mwn, .ref mma, .ref mwi, .ref mnu, .ref mmv])), (mma, .inl (c_ma, 4, .inl w_ma)), (mwi, .inl (c_wi, 4, .inl w_wi)), (mnu, .inl (c_nu, 240, .inr (.inl w_nu)))]) [0, 1, 2, 3] (by decide) rfl
      have hK9 := hK.sub (tys' := [(c_ma, .int), (c_wi, .int), (c_nu, .long)]) [0, 1, 2] rfl
      exact W.iret (v := (-6)) hx hb hr (fun t ht hW => ⟨⟨(-6), (), rfl, (rg_w (by decide : (-6 : Int) ≤ ((-6) : Int32).toInt ∧ ((-6) : Int32).toInt ≤ -6) (by decide) (by decide)), w_nu, by rw [ht]; exact hP9, va_K.moved hW.alike hK9, hD9⟩, hS.F ht⟩) hS.2.2 dX10_write_22
  ·
    have n_c_19 : (r_18.toInt : Int) = 0 := c_eq rfl (by decide) c_19
    have b_r_18 : (0 : Int) ≤ r_18.toInt ∧ r_18.toInt ≤ 0 := r_eq1 b_r_18 (by decide : (0 : Int) ≤ (0 : Int32).toInt ∧ (0 : Int32).toInt ≤ 0) n_c_19 (by decide)
    refine lv_bipush (v := (-2)) hx hb dX10_write_7 (by decide) ?_
    have hP9 := hP.sub (ws' := [(o0, .inr (8, [.int x_th, .ref mwo, .ref mim, .ref mhi, .ref mlu, .ref mtp, .int x_td, .ref mfv, .int x_sz, .int x_at, .int x_fr, .int x_to, .int x_va, .int x_fk, .int x_fp, .ref mfr, .ref mwt, .int x_wt, .int x_op, .int x_jo, .ref mfg, .ref mpl, .long x_dr, .ref mtm, .ref mfa, .ref mqu, .ref mmo, .ref mwy, .ref mwn, .ref mma, .ref mwi, .ref mnu, .ref mmv])), (mma, .inl (c_ma, 4, .inl w_ma)), (mwi, .inl (c_wi, 4, .inl w_wi)), (mnu, .inl (c_nu, 240, .inr (.inl w_nu)))]) [0, 1, 2, 3] rfl
    have hD9 := hD.sub (ws' := [(o0, .inr (8, [.int x_th, .ref mwo, .ref mim, .ref mhi, .ref mlu, .ref mtp, .int x_td, .ref mfv, .int x_sz, .int x_at, .int x_fr, .int x_to, .int x_va, .int x_fk, .int x_fp, .ref mfr, .ref mwt, .int x_wt, .int x_op, .int x_jo, .ref mfg, .ref mpl, .long x_dr, .ref mtm, .ref mfa, .ref mqu, .ref mmo, .ref mwy, .ref mwn, .ref mma, .ref mwi, .ref mnu, .ref mmv])), (mma, .inl (c_ma, 4, .inl w_ma)), (mwi, .inl (c_wi, 4, .inl w_wi)), (mnu, .inl (c_nu, 240, .inr (.inl w_nu)))]) [0, 1, 2, 3] (by decide) rfl
    have hK9 := hK.sub (tys' := [(c_ma, .int), (c_wi, .int), (c_nu, .long)]) [0, 1, 2] rfl
    exact W.iret (v := (-2)) hx hb hr (fun t ht hW => ⟨⟨(-2), (), rfl, (rg_w (by decide : (-2 : Int) ≤ ((-2) : Int32).toInt ∧ ((-2) : Int32).toInt ≤ -2) (by decide) (by decide)), w_nu, by rw [ht]; exact hP9, va_K.moved hW.alike hK9, hD9⟩, hS.F ht⟩) hS.2.2 dX10_write_9
theorem dX10_paste_0 : decode cX10_paste 0 = .ok (.iload_n 1, 1) := by decide +kernel
theorem dX10_paste_1 : decode cX10_paste 1 = .ok (.invokestatic 369, 3) := by decide +kernel
theorem dX10_paste_4 : decode cX10_paste 4 = .ok (.ifCond .eq 10, 3) := by decide +kernel
theorem dX10_paste_7 : decode cX10_paste 7 = .ok (.iload_n 3, 1) := by decide +kernel
theorem dX10_paste_8 : decode cX10_paste 8 = .ok (.invokestatic 369, 3) := by decide +kernel
theorem dX10_paste_11 : decode cX10_paste 11 = .ok (.ifCond .ne 6, 3) := by decide +kernel
theorem dX10_paste_14 : decode cX10_paste 14 = .ok (.bipush (-2), 2) := by decide +kernel
theorem dX10_paste_16 : decode cX10_paste 16 = .ok (.ireturn, 1) := by decide +kernel
theorem dX10_paste_17 : decode cX10_paste 17 = .ok (.aload_n 0, 1) := by decide +kernel
theorem dX10_paste_18 : decode cX10_paste 18 = .ok (.getfield 65, 3) := by decide +kernel
theorem dX10_paste_21 : decode cX10_paste 21 = .ok (.iload_n 1, 1) := by decide +kernel
theorem dX10_paste_22 : decode cX10_paste 22 = .ok (.iaload, 1) := by decide +kernel
theorem dX10_paste_23 : decode cX10_paste 23 = .ok (.iconst (-1), 1) := by decide +kernel
theorem dX10_paste_24 : decode cX10_paste 24 = .ok (.if_icmp .eq 13, 3) := by decide +kernel
theorem dX10_paste_27 : decode cX10_paste 27 = .ok (.aload_n 0, 1) := by decide +kernel
theorem dX10_paste_28 : decode cX10_paste 28 = .ok (.getfield 65, 3) := by decide +kernel
theorem dX10_paste_31 : decode cX10_paste 31 = .ok (.iload_n 3, 1) := by decide +kernel
theorem dX10_paste_32 : decode cX10_paste 32 = .ok (.iaload, 1) := by decide +kernel
theorem dX10_paste_33 : decode cX10_paste 33 = .ok (.iconst (-1), 1) := by decide +kernel
theorem dX10_paste_34 : decode cX10_paste 34 = .ok (.if_icmp .ne 6, 3) := by decide +kernel
theorem dX10_paste_37 : decode cX10_paste 37 = .ok (.bipush (-6), 2) := by decide +kernel
theorem dX10_paste_39 : decode cX10_paste 39 = .ok (.ireturn, 1) := by decide +kernel
theorem dX10_paste_40 : decode cX10_paste 40 = .ok (.aload_n 0, 1) := by decide +kernel
theorem dX10_paste_41 : decode cX10_paste 41 = .ok (.getfield 68, 3) := by decide +kernel
theorem dX10_paste_44 : decode cX10_paste 44 = .ok (.iload_n 1, 1) := by decide +kernel
theorem dX10_paste_45 : decode cX10_paste 45 = .ok (.iaload, 1) := by decide +kernel
theorem dX10_paste_46 : decode cX10_paste 46 = .ok (.aload_n 0, 1) := by decide +kernel
theorem dX10_paste_47 : decode cX10_paste 47 = .ok (.getfield 68, 3) := by decide +kernel
theorem dX10_paste_50 : decode cX10_paste 50 = .ok (.iload_n 3, 1) := by decide +kernel
theorem dX10_paste_51 : decode cX10_paste 51 = .ok (.iaload, 1) := by decide +kernel
theorem dX10_paste_52 : decode cX10_paste 52 = .ok (.if_icmp .eq 6, 3) := by decide +kernel
theorem dX10_paste_55 : decode cX10_paste 55 = .ok (.bipush (-8), 2) := by decide +kernel
theorem dX10_paste_57 : decode cX10_paste 57 = .ok (.ireturn, 1) := by decide +kernel
theorem dX10_paste_58 : decode cX10_paste 58 = .ok (.iload_n 2, 1) := by decide +kernel
theorem dX10_paste_59 : decode cX10_paste 59 = .ok (.ifCond .lt 48, 3) := by decide +kernel
theorem dX10_paste_62 : decode cX10_paste 62 = .ok (.iload 4, 2) := by decide +kernel
theorem dX10_paste_64 : decode cX10_paste 64 = .ok (.ifCond .lt 43, 3) := by decide +kernel
theorem dX10_paste_67 : decode cX10_paste 67 = .ok (.iload 5, 2) := by decide +kernel
theorem dX10_paste_69 : decode cX10_paste 69 = .ok (.ifCond .lt 38, 3) := by decide +kernel
theorem dX10_paste_72 : decode cX10_paste 72 = .ok (.iload_n 2, 1) := by decide +kernel
theorem dX10_paste_73 : decode cX10_paste 73 = .ok (.i2l, 1) := by decide +kernel
theorem dX10_paste_74 : decode cX10_paste 74 = .ok (.iload 5, 2) := by decide +kernel
theorem dX10_paste_76 : decode cX10_paste 76 = .ok (.i2l, 1) := by decide +kernel
theorem dX10_paste_77 : decode cX10_paste 77 = .ok (.ladd, 1) := by decide +kernel
theorem dX10_paste_78 : decode cX10_paste 78 = .ok (.aload_n 0, 1) := by decide +kernel
theorem dX10_paste_79 : decode cX10_paste 79 = .ok (.getfield 65, 3) := by decide +kernel
theorem dX10_paste_82 : decode cX10_paste 82 = .ok (.iload_n 1, 1) := by decide +kernel
theorem dX10_paste_83 : decode cX10_paste 83 = .ok (.iaload, 1) := by decide +kernel
theorem dX10_paste_84 : decode cX10_paste 84 = .ok (.i2l, 1) := by decide +kernel
theorem dX10_paste_85 : decode cX10_paste 85 = .ok (.lcmp, 1) := by decide +kernel
theorem dX10_paste_86 : decode cX10_paste 86 = .ok (.ifCond .gt 21, 3) := by decide +kernel
theorem dX10_paste_89 : decode cX10_paste 89 = .ok (.iload 4, 2) := by decide +kernel
theorem dX10_paste_91 : decode cX10_paste 91 = .ok (.i2l, 1) := by decide +kernel
theorem dX10_paste_92 : decode cX10_paste 92 = .ok (.iload 5, 2) := by decide +kernel
theorem dX10_paste_94 : decode cX10_paste 94 = .ok (.i2l, 1) := by decide +kernel
theorem dX10_paste_95 : decode cX10_paste 95 = .ok (.ladd, 1) := by decide +kernel
theorem dX10_paste_96 : decode cX10_paste 96 = .ok (.aload_n 0, 1) := by decide +kernel
theorem dX10_paste_97 : decode cX10_paste 97 = .ok (.getfield 65, 3) := by decide +kernel
theorem dX10_paste_100 : decode cX10_paste 100 = .ok (.iload_n 3, 1) := by decide +kernel
theorem dX10_paste_101 : decode cX10_paste 101 = .ok (.iaload, 1) := by decide +kernel
theorem dX10_paste_102 : decode cX10_paste 102 = .ok (.i2l, 1) := by decide +kernel
theorem dX10_paste_103 : decode cX10_paste 103 = .ok (.lcmp, 1) := by decide +kernel
theorem dX10_paste_104 : decode cX10_paste 104 = .ok (.ifCond .le 6, 3) := by decide +kernel
theorem dX10_paste_107 : decode cX10_paste 107 = .ok (.bipush (-7), 2) := by decide +kernel
theorem dX10_paste_109 : decode cX10_paste 109 = .ok (.ireturn, 1) := by decide +kernel
theorem dX10_paste_110 : decode cX10_paste 110 = .ok (.iconst 0, 1) := by decide +kernel
theorem dX10_paste_111 : decode cX10_paste 111 = .ok (.istore 6, 2) := by decide +kernel
theorem dX10_paste_113 : decode cX10_paste 113 = .ok (.iload 6, 2) := by decide +kernel
theorem dX10_paste_115 : decode cX10_paste 115 = .ok (.iload 5, 2) := by decide +kernel
theorem dX10_paste_117 : decode cX10_paste 117 = .ok (.if_icmp .ge 30, 3) := by decide +kernel
theorem dX10_paste_120 : decode cX10_paste 120 = .ok (.aload_n 0, 1) := by decide +kernel
theorem dX10_paste_121 : decode cX10_paste 121 = .ok (.getfield 74, 3) := by decide +kernel
theorem dX10_paste_124 : decode cX10_paste 124 = .ok (.iload 6, 2) := by decide +kernel
theorem dX10_paste_126 : decode cX10_paste 126 = .ok (.aload_n 0, 1) := by decide +kernel
theorem dX10_paste_127 : decode cX10_paste 127 = .ok (.getfield 71, 3) := by decide +kernel
theorem dX10_paste_130 : decode cX10_paste 130 = .ok (.bipush 60, 2) := by decide +kernel
theorem dX10_paste_132 : decode cX10_paste 132 = .ok (.iload_n 1, 1) := by decide +kernel
theorem dX10_paste_133 : decode cX10_paste 133 = .ok (.imul, 1) := by decide +kernel
theorem dX10_paste_134 : decode cX10_paste 134 = .ok (.iload_n 2, 1) := by decide +kernel
theorem dX10_paste_135 : decode cX10_paste 135 = .ok (.iadd, 1) := by decide +kernel
theorem dX10_paste_136 : decode cX10_paste 136 = .ok (.iload 6, 2) := by decide +kernel
theorem dX10_paste_138 : decode cX10_paste 138 = .ok (.iadd, 1) := by decide +kernel
theorem dX10_paste_139 : decode cX10_paste 139 = .ok (.laload, 1) := by decide +kernel
theorem dX10_paste_140 : decode cX10_paste 140 = .ok (.lastore, 1) := by decide +kernel
theorem dX10_paste_141 : decode cX10_paste 141 = .ok (.iinc 6 1, 3) := by decide +kernel
theorem dX10_paste_144 : decode cX10_paste 144 = .ok (.goto (-31), 3) := by decide +kernel
theorem dX10_paste_147 : decode cX10_paste 147 = .ok (.iconst 0, 1) := by decide +kernel
theorem dX10_paste_148 : decode cX10_paste 148 = .ok (.istore 6, 2) := by decide +kernel
theorem dX10_paste_150 : decode cX10_paste 150 = .ok (.iload 6, 2) := by decide +kernel
theorem dX10_paste_152 : decode cX10_paste 152 = .ok (.iload 5, 2) := by decide +kernel
theorem dX10_paste_154 : decode cX10_paste 154 = .ok (.if_icmp .ge 31, 3) := by decide +kernel
theorem dX10_paste_157 : decode cX10_paste 157 = .ok (.aload_n 0, 1) := by decide +kernel
theorem dX10_paste_158 : decode cX10_paste 158 = .ok (.getfield 71, 3) := by decide +kernel
theorem dX10_paste_161 : decode cX10_paste 161 = .ok (.bipush 60, 2) := by decide +kernel
theorem dX10_paste_163 : decode cX10_paste 163 = .ok (.iload_n 3, 1) := by decide +kernel
theorem dX10_paste_164 : decode cX10_paste 164 = .ok (.imul, 1) := by decide +kernel
theorem dX10_paste_165 : decode cX10_paste 165 = .ok (.iload 4, 2) := by decide +kernel
theorem dX10_paste_167 : decode cX10_paste 167 = .ok (.iadd, 1) := by decide +kernel
theorem dX10_paste_168 : decode cX10_paste 168 = .ok (.iload 6, 2) := by decide +kernel
theorem dX10_paste_170 : decode cX10_paste 170 = .ok (.iadd, 1) := by decide +kernel
theorem dX10_paste_171 : decode cX10_paste 171 = .ok (.aload_n 0, 1) := by decide +kernel
theorem dX10_paste_172 : decode cX10_paste 172 = .ok (.getfield 74, 3) := by decide +kernel
theorem dX10_paste_175 : decode cX10_paste 175 = .ok (.iload 6, 2) := by decide +kernel
theorem dX10_paste_177 : decode cX10_paste 177 = .ok (.laload, 1) := by decide +kernel
theorem dX10_paste_178 : decode cX10_paste 178 = .ok (.lastore, 1) := by decide +kernel
theorem dX10_paste_179 : decode cX10_paste 179 = .ok (.iinc 6 1, 3) := by decide +kernel
theorem dX10_paste_182 : decode cX10_paste 182 = .ok (.goto (-32), 3) := by decide +kernel
theorem dX10_paste_185 : decode cX10_paste 185 = .ok (.iconst 0, 1) := by decide +kernel
theorem dX10_paste_186 : decode cX10_paste 186 = .ok (.ireturn, 1) := by decide +kernel
theorem hd_yX10_paste : yX10_paste.cls = RX10 ∧ yX10_paste.cls ≠ "java/lang/invoke/MethodHandle" ∧ yX10_paste.cls ≠ "java/lang/invoke/VarHandle" ∧ (parseMethodDescriptor yX10_paste.desc).map (fun d => d.parameters.length) = some 5 := by decide +kernel
def uX10_paste : List Cond := List.cons (.code yX10_paste cX10_paste 7 (some .int)) (HAppend.hAppend ([.methodLink RX10 369 yX10_isSlot, .static yX10_isSlot, .initialized RX10, .fieldLink RX10 65 "LuckyTicketModel" "many" "[I", .fieldLink RX10 68 "LuckyTicketModel" "width" "[I", .fieldLink RX10 74 "LuckyTicketModel" "moving" "[J", .fieldLink RX10 71 "LuckyTicketModel" "numbers" "[J"] : List Cond) (HAppend.hAppend uX10_isSlot wsX100))
theorem iX10_paste_X10 : ∀ w ∈ wsX100, w ∈ uX10_paste := fun _ h => (List.mem_cons_of_mem _ (List.mem_append_right _ (List.mem_append_right _ h)))
theorem guX10_paste : GU uX10_paste := gu_cons (gu_app (by decide +kernel) (gu_ap guX10_isSlot gws_X10))
theorem gX10_paste__X10_isSlot_S369 : GoodIn uX10_paste (va_wsS RX10 369 yX10_isSlot uX10_isSlot) := gin_S (List.mem_of_getElem? (i := 1) rfl) (List.mem_of_getElem? (i := 2) rfl) (List.mem_of_getElem? (i := 3) rfl) (fun _ h => (List.mem_cons_of_mem _ (List.mem_append_right _ (List.mem_append_left _ h)))) guX10_isSlot
set_option maxHeartbeats 4000000 in
set_option maxRecDepth 100000 in
theorem kX10_paste (l : Launch) (dC : Nat → ClassId) (dI : Nat → Nat → Nat) (o0 : Nat) (x_th : Int32) (mwo : Nat) (mim : Nat) (mhi : Nat) (mlu : Nat) (mtp : Nat) (x_td : Int32) (mfv : Nat) (x_sz : Int32) (x_at : Int32) (x_fr : Int32) (x_to : Int32) (x_va : Int32) (x_fk : Int32) (x_fp : Int32) (mfr : Nat) (mwt : Nat) (x_wt : Int32) (x_op : Int32) (x_jo : Int32) (mfg : Nat) (mpl : Nat) (x_dr : Int64) (mtm : Nat) (mfa : Nat) (mqu : Nat) (mmo : Nat) (mwy : Nat) (mwn : Nat) (mma : Nat) (mwi : Nat) (mnu : Nat) (mmv : Nat) (c_ma : ClassId) (c_wi : ClassId) (c_nu : ClassId) (c_mv : ClassId) (w_ma : Nat → Int32) (w_wi : Nat → Int32) (w_nu : Nat → Int64) (w_mv : Nat → Int64) (a1 : Int32) (a2 : Int32) (a3 : Int32) (a4 : Int32) (a5 : Int32) (sz : Nat) (ha_mma : rg w_ma 4 (-1) 60) (ha_mwi : rg w_wi 4 0 3) : Met l yX10_paste uX10_paste ({ frames := 2, cells := 0, slots := 0, locals := 45 }) (va_Pc [.ref o0, .int a1, .int a2, .int a3, .int a4, .int a5] (hw (dC, dI) vwCl [(o0, .inr (8, [.int x_th, .ref mwo, .ref mim, .ref mhi, .ref mlu, .ref mtp, .int x_td, .ref mfv, .int x_sz, .int x_at, .int x_fr, .int x_to, .int x_va, .int x_fk, .int x_fp, .ref mfr, .ref mwt, .int x_wt, .int x_op, .int x_jo, .ref mfg, .ref mpl, .long x_dr, .ref mtm, .ref mfa, .ref mqu, .ref mmo, .ref mwy, .ref mwn, .ref mma, .ref mwi, .ref mnu, .ref mmv])), (mma, .inl (c_ma, 4, .inl w_ma)), (mwi, .inl (c_wi, 4, .inl w_wi)), (mnu, .inl (c_nu, 240, .inr (.inl w_nu))), (mmv, .inl (c_mv, 60, .inr (.inl w_mv)))] [(c_ma, .int), (c_wi, .int), (c_nu, .long), (c_mv, .long)] sz)) (va_Qi (fun (r : Int32) (_ : Unit) => ((-8 : Int) ≤ r.toInt ∧ r.toInt ≤ 0)) (fun (_ : Unit) t => ∃ (o0_ : Nat → Int64) (o1_ : Nat → Int64), va_P (dC, dI) vwCl [(o0, .inr (8, [.int x_th, .ref mwo, .ref mim, .ref mhi, .ref mlu, .ref mtp, .int x_td, .ref mfv, .int x_sz, .int x_at, .int x_fr, .int x_to, .int x_va, .int x_fk, .int x_fp, .ref mfr, .ref mwt, .int x_wt, .int x_op, .int x_jo, .ref mfg, .ref mpl, .long x_dr, .ref mtm, .ref mfa, .ref mqu, .ref mmo, .ref mwy, .ref mwn, .ref mma, .ref mwi, .ref mnu, .ref mmv])), (mma, .inl (c_ma, 4, .inl w_ma)), (mwi, .inl (c_wi, 4, .inl w_wi)), (mnu, .inl (c_nu, 240, .inr (.inl o0_))), (mmv, .inl (c_mv, 60, .inr (.inl o1_)))] t.heap ∧ va_K (dC, dI) vwCl [(c_ma, .int), (c_wi, .int), (c_nu, .long), (c_mv, .long)] t ∧ va_D (va_A [(o0, .inr (8, [.int x_th, .ref mwo, .ref mim, .ref mhi, .ref mlu, .ref mtp, .int x_td, .ref mfv, .int x_sz, .int x_at, .int x_fr, .int x_to, .int x_va, .int x_fk, .int x_fp, .ref mfr, .ref mwt, .int x_wt, .int x_op, .int x_jo, .ref mfg, .ref mpl, .long x_dr, .ref mtm, .ref mfa, .ref mqu, .ref mmo, .ref mwy, .ref mwn, .ref mma, .ref mwi, .ref mnu, .ref mmv])), (mma, .inl (c_ma, 4, .inl w_ma)), (mwi, .inl (c_wi, 4, .inl w_wi)), (mnu, .inl (c_nu, 240, .inr (.inl w_nu))), (mmv, .inl (c_mv, 60, .inr (.inl w_mv)))] sz) [(o0, .inr (8, [.int x_th, .ref mwo, .ref mim, .ref mhi, .ref mlu, .ref mtp, .int x_td, .ref mfv, .int x_sz, .int x_at, .int x_fr, .int x_to, .int x_va, .int x_fk, .int x_fp, .ref mfr, .ref mwt, .int x_wt, .int x_op, .int x_jo, .ref mfg, .ref mpl, .long x_dr, .ref mtm, .ref mfa, .ref mqu, .ref mmo, .ref mwy, .ref mwn, .ref mma, .ref mwi, .ref mnu, .ref mmv])), (mma, .inl (c_ma, 4, .inl w_ma)), (mwi, .inl (c_wi, 4, .inl w_wi)), (mnu, .inl (c_nu, 240, .inr (.inl o0_))), (mmv, .inl (c_mv, 60, .inr (.inl o1_)))]) (va_A [(o0, .inr (8, [.int x_th, .ref mwo, .ref mim, .ref mhi, .ref mlu, .ref mtp, .int x_td, .ref mfv, .int x_sz, .int x_at, .int x_fr, .int x_to, .int x_va, .int x_fk, .int x_fp, .ref mfr, .ref mwt, .int x_wt, .int x_op, .int x_jo, .ref mfg, .ref mpl, .long x_dr, .ref mtm, .ref mfa, .ref mqu, .ref mmo, .ref mwy, .ref mwn, .ref mma, .ref mwi, .ref mnu, .ref mmv])), (mma, .inl (c_ma, 4, .inl w_ma)), (mwi, .inl (c_wi, 4, .inl w_wi)), (mnu, .inl (c_nu, 240, .inr (.inl w_nu))), (mmv, .inl (c_mv, 60, .inr (.inl w_mv)))] sz)) 0 0 (va_A [(o0, .inr (8, [.int x_th, .ref mwo, .ref mim, .ref mhi, .ref mlu, .ref mtp, .int x_td, .ref mfv, .int x_sz, .int x_at, .int x_fr, .int x_to, .int x_va, .int x_fk, .int x_fp, .ref mfr, .ref mwt, .int x_wt, .int x_op, .int x_jo, .ref mfg, .ref mpl, .long x_dr, .ref mtm, .ref mfa, .ref mqu, .ref mmo, .ref mwy, .ref mwn, .ref mma, .ref mwi, .ref mnu, .ref mmv])), (mma, .inl (c_ma, 4, .inl w_ma)), (mwi, .inl (c_wi, 4, .inl w_wi)), (mnu, .inl (c_nu, 240, .inr (.inl w_nu))), (mmv, .inl (c_mv, 60, .inr (.inl w_mv)))] sz) := by
  refine Met.ofW (cc := cX10_paste) (maxL := 7) (ret := (some .int)) pn_X10 rfl ?_
  intro p e s m args below meth c s₁ B hml hv
  obtain ⟨rfl, hsz, hP, hK, hD0, hN⟩ := hv
  have hx := B.exec
  have hb := B.bytes
  have hr := B.returns
  have hts := atoms_spec (ws := uX10_paste) B.pre
  have hown : s.vm.findClass RX10 = some m.cls := hown_of B.named rfl
  have hlocks := B.notSynchronized
  subst hsz
  have hD := hD0.self (sz := s.heap.size)
  generalize hAe : va_A [(o0, .inr (8, [.int x_th, .ref mwo, .ref mim, .ref mhi, .ref mlu, .ref mtp, .int x_td, .ref mfv, .int x_sz, .int x_at, .int x_fr, .int x_to, .int x_va, .int x_fk, .int x_fp, .ref mfr, .ref mwt, .int x_wt, .int x_op, .int x_jo, .ref mfg, .ref mpl, .long x_dr, .ref mtm, .ref mfa, .ref mqu, .ref mmo, .ref mwy, .ref mwn, .ref mma, .ref mwi, .ref mnu, .ref mmv])), (mma, .inl (c_ma, 4, .inl w_ma)), (mwi, .inl (c_wi, 4, .inl w_wi)), (mnu, .inl (c_nu, 240, .inr (.inl w_nu))), (mmv, .inl (c_mv, 60, .inr (.inl w_mv)))] s.heap.size = A at hD ⊢
  have hA : ∀ q : Nat, s.heap.size ≤ q → A q := fun q h => by rw [← hAe]; exact Or.inr h
  have hS : va_S A s.heap s.heap [] := va_S.rf
  have hP : va_P (dC, dI) vwCl [(o0, .inr (8, [.int x_th, .ref mwo, .ref mim, .ref mhi, .ref mlu, .ref mtp, .int x_td, .ref mfv, .int x_sz, .int x_at, .int x_fr, .int x_to, .int x_va, .int x_fk, .int x_fp, .ref mfr, .ref mwt, .int x_wt, .int x_op, .int x_jo, .ref mfg, .ref mpl, .long x_dr, .ref mtm, .ref mfa, .ref mqu, .ref mmo, .ref mwy, .ref mwn, .ref mma, .ref mwi, .ref mnu, .ref mmv])), (mma, .inl (c_ma, 4, .inl w_ma)), (mwi, .inl (c_wi, 4, .inl w_wi)), (mnu, .inl (c_nu, 240, .inr (.inl w_nu))), (mmv, .inl (c_mv, 60, .inr (.inl w_mv)))] s.heap := hP
  have hl := lv_entry ([.ref o0, .int a1, .int a2, .int a3, .int a4, .int a5]) (n := 7) (Nat.le_of_ble_eq_true rfl)
  rw [lg_entry_eq]
  generalize (lg_sl ([.ref o0, .int a1, .int a2, .int a3, .int a4, .int a5]) ++ List.replicate (7 - (lg_sl ([.ref o0, .int a1, .int a2, .int a3, .int a4, .int a5])).length) Slot.unset).toArray = ls at hl ⊢
  have hl : lv_has ls 7 [(0, .ref o0), (1, .int a1), (2, .int a2), (3, .int a3), (4, .int a4), (5, .int a5)] := hl
  refine lv_iload_n hx hb dX10_paste_0 rfl (lv_at hl 1 rfl) ?_
  refine vp_callSi (W.runS (As := [.int a1]) (rest := []) ⟨hx, hb, hml, hown, hts⟩ (kX10_isSlot l dC dI a1 ) (va_cwS 1 hts gX10_paste__X10_isSlot_S369 rfl rfl rfl hd_yX10_isSlot.2 ⟨lel 2 2 rfl, lel 45 45 rfl⟩) ⟨pn_fb, pn_use⟩ rfl rfl hl.1 rfl (lv_room (Nat.le_of_ble_eq_true rfl)) dX10_paste_1 ⟨lel 0 0 rfl, lel 0 0 rfl⟩) (fun r_360 h_r_360 => ?_)
  obtain ⟨b_r_360, nz_r_360⟩ := h_r_360
  have b_r_360 : (0 : Int) ≤ r_360.toInt ∧ r_360.toInt ≤ 1 := b_r_360
  refine lv_if_eq (tgt := 14) hx hb dX10_paste_4 (by decide) (fun c_361 => ?_) (fun c_361 => ?_)
  ·
    have n_c_361 : (r_360.toInt : Int) = 0 := c_eq rfl (by decide) c_361
    have b_r_360 : (0 : Int) ≤ r_360.toInt ∧ r_360.toInt ≤ 0 := r_eq1 b_r_360 (by decide : (0 : Int) ≤ (0 : Int32).toInt ∧ (0 : Int32).toInt ≤ 0) n_c_361 (by decide)
    refine lv_bipush (v := (-2)) hx hb dX10_paste_14 (by decide) ?_
    have hP9 := hP.sub (ws' := [(o0, .inr (8, [.int x_th, .ref mwo, .ref mim, .ref mhi, .ref mlu, .ref mtp, .int x_td, .ref mfv, .int x_sz, .int x_at, .int x_fr, .int x_to, .int x_va, .int x_fk, .int x_fp, .ref mfr, .ref mwt, .int x_wt, .int x_op, .int x_jo, .ref mfg, .ref mpl, .long x_dr, .ref mtm, .ref mfa, .ref mqu, .ref mmo, .ref mwy, .ref mwn, .ref mma, .ref mwi, .ref mnu, .ref mmv])), (mma, .inl (c_ma, 4, .inl w_ma)), (mwi, .inl (c_wi, 4, .inl w_wi)), (mnu, .inl (c_nu, 240, .inr (.inl w_nu))), (mmv, .inl (c_mv, 60, .inr (.inl w_mv)))]) [0, 1, 2, 3, 4] rfl
    have hD9 := hD.sub (ws' := [(o0, .inr (8, [.int x_th, .ref mwo, .ref mim, .ref mhi, .ref mlu, .ref mtp, .int x_td, .ref mfv, .int x_sz, .int x_at, .int x_fr, .int x_to, .int x_va, .int x_fk, .int x_fp, .ref mfr, .ref mwt, .int x_wt, .int x_op, .int x_jo, .ref mfg, .ref mpl, .long x_dr, .ref mtm, .ref mfa, .ref mqu, .ref mmo, .ref mwy, .ref mwn, .ref mma, .ref mwi, .ref mnu, .ref mmv])), (mma, .inl (c_ma, 4, .inl w_ma)), (mwi, .inl (c_wi, 4, .inl w_wi)), (mnu, .inl (c_nu, 240, .inr (.inl w_nu))), (mmv, .inl (c_mv, 60, .inr (.inl w_mv)))]) [0, 1, 2, 3, 4] (by decide) rfl
    have hK9 := hK.sub (tys' := [(c_ma, .int), (c_wi, .int), (c_nu, .long), (c_mv, .long)]) [0, 1, 2, 3] rfl
    exact W.iret (v := (-2)) hx hb hr (fun t ht hW => ⟨⟨(-2), (), rfl, (rg_w (by decide : (-2 : Int) ≤ ((-2) : Int32).toInt ∧ ((-2) : Int32).toInt ≤ -2) (by decide) (by decide)), w_nu, w_mv, by rw [ht]; exact hP9, va_K.moved hW.alike hK9, hD9⟩, hS.F ht⟩) hS.2.2 dX10_paste_16
  ·
    have n_c_361 : (r_360.toInt : Int) ≠ 0 := c_ne rfl (by decide) c_361
    have b_r_360 : (1 : Int) ≤ r_360.toInt ∧ r_360.toInt ≤ 1 := r_ne1 b_r_360 (by decide : (0 : Int) ≤ (0 : Int32).toInt ∧ (0 : Int32).toInt ≤ 0) n_c_361 (by decide)
    obtain ⟨b_a1, g_362⟩ := nz_r_360 c_361
    refine lv_iload_n hx hb dX10_paste_7 rfl (lv_at hl 3 rfl) ?_
    refine vp_callSi (W.runS (As := [.int a3]) (rest := []) ⟨hx, hb, hml, hown, hts⟩ (kX10_isSlot l dC dI a3 ) (va_cwS 1 hts gX10_paste__X10_isSlot_S369 rfl rfl rfl hd_yX10_isSlot.2 ⟨lel 2 2 rfl, lel 45 45 rfl⟩) ⟨pn_fb, pn_use⟩ rfl rfl hl.1 rfl (lv_room (Nat.le_of_ble_eq_true rfl)) dX10_paste_8 ⟨lel 0 0 rfl, lel 0 0 rfl⟩) (fun r_363 h_r_363 => ?_)
    obtain ⟨b_r_363, nz_r_363⟩ := h_r_363
    have b_r_363 : (0 : Int) ≤ r_363.toInt ∧ r_363.toInt ≤ 1 := b_r_363
    refine lv_if_ne (tgt := 17) hx hb dX10_paste_11 (by decide) (fun c_364 => ?_) (fun c_364 => ?_)
    ·
      have n_c_364 : (r_363.toInt : Int) ≠ 0 := c_ne rfl (by decide) c_364
      have b_r_363 : (1 : Int) ≤ r_363.toInt ∧ r_363.toInt ≤ 1 := r_ne1 b_r_363 (by decide : (0 : Int) ≤ (0 : Int32).toInt ∧ (0 : Int32).toInt ≤ 0) n_c_364 (by decide)
      obtain ⟨b_a3, g_365⟩ := nz_r_363 c_364
      refine lv_aload_n hx hb dX10_paste_17 rfl (lv_at hl 0 rfl) ?_
      refine va_get (D := (dC, dI)) (ci := 8) (v := .ref mma) (C := RX10) (T := TX10) (N := 33) hx hb hts iX10_paste_X10 hown hK hP 0 rfl rfl 29 (by decide) (hts (.fieldLink RX10 65 "LuckyTicketModel" "many" "[I") (List.mem_of_getElem? (i := 4) rfl)) (fun _ h9 => h9) rfl dX10_paste_18 ?_
      refine lv_iload_n hx hb dX10_paste_21 rfl (lv_at hl 1 rfl) ?_
      refine va_iald hx hb hK hP 1 0 rfl rfl (vp_in_b b_a1 (by decide) (by decide)) dX10_paste_22 ?_
      refine lv_topi (fun z_366 e_z_366 => ?_)
      have b_z_366 : (-1 : Int) ≤ z_366.toInt ∧ z_366.toInt ≤ 60 := rg_at ha_mma (vp_in_b b_a1 (by decide) (by decide)) e_z_366
      refine lv_iconst (v := (-1)) hx hb dX10_paste_23 (by decide) ?_
      refine lv_icmp_eq (tgt := 37) hx hb dX10_paste_24 (by decide) (fun c_367 => ?_) (fun c_367 => ?_)
      ·
        have n_c_367 : (z_366.toInt : Int) = (-1) := c_eq rfl (by decide) c_367
        have b_z_366 : (-1 : Int) ≤ z_366.toInt ∧ z_366.toInt ≤ -1 := r_eq1 b_z_366 (by decide : (-1 : Int) ≤ ((-1) : Int32).toInt ∧ ((-1) : Int32).toInt ≤ -1) n_c_367 (by decide)
        refine lv_bipush (v := (-6)) hx hb dX10_paste_37 (by decide) ?_
        have hP9 := hP.sub (ws' := [(o0, .inr (8, [.int x_th, .ref mwo, .ref mim, .ref mhi, .ref mlu, .ref mtp, .int x_td, .ref mfv, .int x_sz, .int x_at, .int x_fr, .int x_to, .int x_va, .int x_fk, .int x_fp, .ref mfr, .ref mwt, .int x_wt, .int x_op, .int x_jo, .ref mfg, .ref mpl, .long x_dr, .ref mtm, .ref mfa, .ref mqu, .ref mmo, .ref mwy, .ref mwn, .ref mma, .ref mwi, .ref mnu, .ref mmv])), (mma, .inl (c_ma, 4, .inl w_ma)), (mwi, .inl (c_wi, 4, .inl w_wi)), (mnu, .inl (c_nu, 240, .inr (.inl w_nu))), (mmv, .inl (c_mv, 60, .inr (.inl w_mv)))]) [0, 1, 2, 3, 4] rfl
        have hD9 := hD.sub (ws' := [(o0, .inr (8, [.int x_th, .ref mwo, .ref mim, .ref mhi, .ref mlu, .ref mtp, .int x_td, .ref mfv, .int x_sz, .int x_at, .int x_fr, .int x_to, .int x_va, .int x_fk, .int x_fp, .ref mfr, .ref mwt, .int x_wt, .int x_op, .int x_jo, .ref mfg, .ref mpl, .long x_dr, .ref mtm, .ref mfa, .ref mqu, .ref mmo, .ref mwy, .ref mwn, .ref mma, .ref mwi, .ref mnu, .ref mmv])), (mma, .inl (c_ma, 4, .inl w_ma)), (mwi, .inl (c_wi, 4, .inl w_wi)), (mnu, .inl (c_nu, 240, .inr (.inl w_nu))), (mmv, .inl (c_mv, 60, .inr (.inl w_mv)))]) [0, 1, 2, 3, 4] (by decide) rfl
        have hK9 := hK.sub (tys' := [(c_ma, .int), (c_wi, .int), (c_nu, .long), (c_mv, .long)]) [0, 1, 2, 3] rfl
        exact W.iret (v := (-6)) hx hb hr (fun t ht hW => ⟨⟨(-6), (), rfl, (rg_w (by decide : (-6 : Int) ≤ ((-6) : Int32).toInt ∧ ((-6) : Int32).toInt ≤ -6) (by decide) (by decide)), w_nu, w_mv, by rw [ht]; exact hP9, va_K.moved hW.alike hK9, hD9⟩, hS.F ht⟩) hS.2.2 dX10_paste_39
      ·
        have n_c_367 : (z_366.toInt : Int) ≠ (-1) := c_ne rfl (by decide) c_367
        have b_z_366 : (0 : Int) ≤ z_366.toInt ∧ z_366.toInt ≤ 60 := r_ne1 b_z_366 (by decide : (-1 : Int) ≤ ((-1) : Int32).toInt ∧ ((-1) : Int32).toInt ≤ -1) n_c_367 (by decide)
        refine lv_aload_n hx hb dX10_paste_27 rfl (lv_at hl 0 rfl) ?_
        refine va_get (D := (dC, dI)) (ci := 8) (v := .ref mma) (C := RX10) (T := TX10) (N := 33) hx hb hts iX10_paste_X10 hown hK hP 0 rfl rfl 29 (by decide) (hts (.fieldLink RX10 65 "LuckyTicketModel" "many" "[I") (List.mem_of_getElem? (i := 4) rfl)) (fun _ h9 => h9) rfl dX10_paste_28 ?_
        refine lv_iload_n hx hb dX10_paste_31 rfl (lv_at hl 3 rfl) ?_
        refine va_iald hx hb hK hP 1 0 rfl rfl (vp_in_b b_a3 (by decide) (by decide)) dX10_paste_32 ?_
        refine lv_topi (fun z_368 e_z_368 => ?_)
        have b_z_368 : (-1 : Int) ≤ z_368.toInt ∧ z_368.toInt ≤ 60 := rg_at ha_mma (vp_in_b b_a3 (by decide) (by decide)) e_z_368
        refine lv_iconst (v := (-1)) hx hb dX10_paste_33 (by decide) ?_
        refine lv_icmp_ne (tgt := 40) hx hb dX10_paste_34 (by decide) (fun c_369 => ?_) (fun c_369 => ?_)
        ·
          have n_c_369 : (z_368.toInt : Int) ≠ (-1) := c_ne rfl (by decide) c_369
          have b_z_368 : (0 : Int) ≤ z_368.toInt ∧ z_368.toInt ≤ 60 := r_ne1 b_z_368 (by decide : (-1 : Int) ≤ ((-1) : Int32).toInt ∧ ((-1) : Int32).toInt ≤ -1) n_c_369 (by decide)
          refine lv_aload_n hx hb dX10_paste_40 rfl (lv_at hl 0 rfl) ?_
          refine va_get (D := (dC, dI)) (ci := 8) (v := .ref mwi) (C := RX10) (T := TX10) (N := 33) hx hb hts iX10_paste_X10 hown hK hP 0 rfl rfl 30 (by decide) (hts (.fieldLink RX10 68 "LuckyTicketModel" "width" "[I") (List.mem_of_getElem? (i := 5) rfl)) (fun _ h9 => h9) rfl dX10_paste_41 ?_
          refine lv_iload_n hx hb dX10_paste_44 rfl (lv_at hl 1 rfl) ?_
          refine va_iald hx hb hK hP 2 1 rfl rfl (vp_in_b b_a1 (by decide) (by decide)) dX10_paste_45 ?_
          refine lv_topi (fun z_370 e_z_370 => ?_)
          have b_z_370 : (0 : Int) ≤ z_370.toInt ∧ z_370.toInt ≤ 3 := rg_at ha_mwi (vp_in_b b_a1 (by decide) (by decide)) e_z_370
          refine lv_aload_n hx hb dX10_paste_46 rfl (lv_at hl 0 rfl) ?_
          refine va_get (D := (dC, dI)) (ci := 8) (v := .ref mwi) (C := RX10) (T := TX10) (N := 33) hx hb hts iX10_paste_X10 hown hK hP 0 rfl rfl 30 (by decide) (hts (.fieldLink RX10 68 "LuckyTicketModel" "width" "[I") (List.mem_of_getElem? (i := 5) rfl)) (fun _ h9 => h9) rfl dX10_paste_47 ?_
          refine lv_iload_n hx hb dX10_paste_50 rfl (lv_at hl 3 rfl) ?_
          refine va_iald hx hb hK hP 2 1 rfl rfl (vp_in_b b_a3 (by decide) (by decide)) dX10_paste_51 ?_
          refine lv_topi (fun z_371 e_z_371 => ?_)
          have b_z_371 : (0 : Int) ≤ z_371.toInt ∧ z_371.toInt ≤ 3 := rg_at ha_mwi (vp_in_b b_a3 (by decide) (by decide)) e_z_371
          refine lv_icmp_eq (tgt := 58) hx hb dX10_paste_52 (by decide) (fun c_372 => ?_) (fun c_372 => ?_)
          ·
            have n_c_372 : (z_370.toInt : Int) = z_371.toInt := c_eq rfl rfl c_372
            refine lv_iload_n hx hb dX10_paste_58 rfl (lv_at hl 2 rfl) ?_
            refine lv_if_lt (tgt := 107) hx hb dX10_paste_59 (by decide) (fun c_373 => ?_) (fun c_373 => ?_)
            ·
              have n_c_373 : (a2.toInt : Int) < 0 := c_lt rfl (by decide) c_373
              have b_a2 : (-2147483648 : Int) ≤ a2.toInt ∧ a2.toInt ≤ -1 := r_lt1 (ti_rng a2) (by decide : (0 : Int) ≤ (0 : Int32).toInt ∧ (0 : Int32).toInt ≤ 0) n_c_373 (by decide)
              refine lv_bipush (v := (-7)) hx hb dX10_paste_107 (by decide) ?_
              have hP9 := hP.sub (ws' := [(o0, .inr (8, [.int x_th, .ref mwo, .ref mim, .ref mhi, .ref mlu, .ref mtp, .int x_td, .ref mfv, .int x_sz, .int x_at, .int x_fr, .int x_to, .int x_va, .int x_fk, .int x_fp, .ref mfr, .ref mwt, .int x_wt, .int x_op, .int x_jo, .ref mfg, .ref mpl, .long x_dr, .ref mtm, .ref mfa, .ref mqu, .ref mmo, .ref mwy, .ref mwn, .ref mma, .ref mwi, .ref mnu, .ref mmv])), (mma, .inl (c_ma, 4, .inl w_ma)), (mwi, .inl (c_wi, 4, .inl w_wi)), (mnu, .inl (c_nu, 240, .inr (.inl w_nu))), (mmv, .inl (c_mv, 60, .inr (.inl w_mv)))]) [0, 1, 2, 3, 4] rfl
              have hD9 := hD.sub (ws' := [(o0, .inr (8, [.int x_th, .ref mwo, .ref mim, .ref mhi, .ref mlu, .ref mtp, .int x_td, .ref mfv, .int x_sz, .int x_at, .int x_fr, .int x_to, .int x_va, .int x_fk, .int x_fp, .ref mfr, .ref mwt, .int x_wt, .int x_op, .int x_jo, .ref mfg, .ref mpl, .long x_dr, .ref mtm, .ref mfa, .ref mqu, .ref mmo, .ref mwy, .ref mwn, .ref mma, .ref mwi, .ref mnu, .ref mmv])), (mma, .inl (c_ma, 4, .inl w_ma)), (mwi, .inl (c_wi, 4, .inl w_wi)), (mnu, .inl (c_nu, 240, .inr (.inl w_nu))), (mmv, .inl (c_mv, 60, .inr (.inl w_mv)))]) [0, 1, 2, 3, 4] (by decide) rfl
              have hK9 := hK.sub (tys' := [(c_ma, .int), (c_wi, .int), (c_nu, .long), (c_mv, .long)]) [0, 1, 2, 3] rfl
              exact W.iret (v := (-7)) hx hb hr (fun t ht hW => ⟨⟨(-7), (), rfl, (rg_w (by decide : (-7 : Int) ≤ ((-7) : Int32).toInt ∧ ((-7) : Int32).toInt ≤ -7) (by decide) (by decide)), w_nu, w_mv, by rw [ht]; exact hP9, va_K.moved hW.alike hK9, hD9⟩, hS.F ht⟩) hS.2.2 dX10_paste_109
            ·
              have n_c_373 : (0 : Int) ≤ a2.toInt := c_nlt rfl (by decide) c_373
              have b_a2 : (0 : Int) ≤ a2.toInt ∧ a2.toInt ≤ 2147483647 := r_le2 (by decide : (0 : Int) ≤ (0 : Int32).toInt ∧ (0 : Int32).toInt ≤ 0) (ti_rng a2) n_c_373 (by decide)
              refine lv_iload hx hb dX10_paste_62 (lv_at hl 4 rfl) ?_
              refine lv_if_lt (tgt := 107) hx hb dX10_paste_64 (by decide) (fun c_374 => ?_) (fun c_374 => ?_)
              ·
                have n_c_374 : (a4.toInt : Int) < 0 := c_lt rfl (by decide) c_374
                have b_a4 : (-2147483648 : Int) ≤ a4.toInt ∧ a4.toInt ≤ -1 := r_lt1 (ti_rng a4) (by decide : (0 : Int) ≤ (0 : Int32).toInt ∧ (0 : Int32).toInt ≤ 0) n_c_374 (by decide)
                refine lv_bipush (v := (-7)) hx hb dX10_paste_107 (by decide) ?_
                have hP9 := hP.sub (ws' := [(o0, .inr (8, [.int x_th, .ref mwo, .ref mim, .ref mhi, .ref mlu, .ref mtp, .int x_td, .ref mfv, .int x_sz, .int x_at, .int x_fr, .int x_to, .int x_va, .int x_fk, .int x_fp, .ref mfr, .ref mwt, .int x_wt, .int x_op, .int x_jo, .ref mfg, .ref mpl, .long x_dr, .ref mtm, .ref mfa, .ref mqu, .ref mmo, .ref mwy, .ref mwn, .ref mma, .ref mwi, .ref mnu, .ref mmv])), (mma, .inl (c_ma, 4, .inl w_ma)), (mwi, .inl (c_wi, 4, .inl w_wi)), (mnu, .inl (c_nu, 240, .inr (.inl w_nu))), (mmv, .inl (c_mv, 60, .inr (.inl w_mv)))]) [0, 1, 2, 3, 4] rfl
                have hD9 := hD.sub (ws' := [(o0, .inr (8, [.int x_th, .ref mwo, .ref mim, .ref mhi, .ref mlu, .ref mtp, .int x_td, .ref mfv, .int x_sz, .int x_at, .int x_fr, .int x_to, .int x_va, .int x_fk, .int x_fp, .ref mfr, .ref mwt, .int x_wt, .int x_op, .int x_jo, .ref mfg, .ref mpl, .long x_dr, .ref mtm, .ref mfa, .ref mqu, .ref mmo, .ref mwy, .ref mwn, .ref mma, .ref mwi, .ref mnu, .ref mmv])), (mma, .inl (c_ma, 4, .inl w_ma)), (mwi, .inl (c_wi, 4, .inl w_wi)), (mnu, .inl (c_nu, 240, .inr (.inl w_nu))), (mmv, .inl (c_mv, 60, .inr (.inl w_mv)))]) [0, 1, 2, 3, 4] (by decide) rfl
                have hK9 := hK.sub (tys' := [(c_ma, .int), (c_wi, .int), (c_nu, .long), (c_mv, .long)]) [0, 1, 2, 3] rfl
                exact W.iret (v := (-7)) hx hb hr (fun t ht hW => ⟨⟨(-7), (), rfl, (rg_w (by decide : (-7 : Int) ≤ ((-7) : Int32).toInt ∧ ((-7) : Int32).toInt ≤ -7) (by decide) (by decide)), w_nu, w_mv, by rw [ht]; exact hP9, va_K.moved hW.alike hK9, hD9⟩, hS.F ht⟩) hS.2.2 dX10_paste_109
              ·
                have n_c_374 : (0 : Int) ≤ a4.toInt := c_nlt rfl (by decide) c_374
                have b_a4 : (0 : Int) ≤ a4.toInt ∧ a4.toInt ≤ 2147483647 := r_le2 (by decide : (0 : Int) ≤ (0 : Int32).toInt ∧ (0 : Int32).toInt ≤ 0) (ti_rng a4) n_c_374 (by decide)
                refine lv_iload hx hb dX10_paste_67 (lv_at hl 5 rfl) ?_
                refine lv_if_lt (tgt := 107) hx hb dX10_paste_69 (by decide) (fun c_375 => ?_) (fun c_375 => ?_)
                ·
                  have n_c_375 : (a5.toInt : Int) < 0 := c_lt rfl (by decide) c_375
                  have b_a5 : (-2147483648 : Int) ≤ a5.toInt ∧ a5.toInt ≤ -1 := r_lt1 (ti_rng a5) (by decide : (0 : Int) ≤ (0 : Int32).toInt ∧ (0 : Int32).toInt ≤ 0) n_c_375 (by decide)
                  refine lv_bipush (v := (-7)) hx hb dX10_paste_107 (by decide) ?_
                  have hP9 := hP.sub (ws' := [(o0, .inr (8, [.int x_th, .ref mwo, .ref mim, .ref mhi, .ref mlu, .ref mtp, .int x_td, .ref mfv, .int x_sz, .int x_at, .int x_fr, .int x_to, .int x_va, .int x_fk, .int x_fp, .ref mfr, .ref mwt, .int x_wt, .int x_op, .int x_jo, .ref mfg, .ref mpl, .long x_dr, .ref mtm, .ref mfa, .ref mqu, .ref mmo, .ref mwy, .ref mwn, .ref mma, .ref mwi, .ref mnu, .ref mmv])), (mma, .inl (c_ma, 4, .inl w_ma)), (mwi, .inl (c_wi, 4, .inl w_wi)), (mnu, .inl (c_nu, 240, .inr (.inl w_nu))), (mmv, .inl (c_mv, 60, .inr (.inl w_mv)))]) [0, 1, 2, 3, 4] rfl
                  have hD9 := hD.sub (ws' := [(o0, .inr (8, [.int x_th, .ref mwo, .ref mim, .ref mhi, .ref mlu, .ref mtp, .int x_td, .ref mfv, .int x_sz, .int x_at, .int x_fr, .int x_to, .int x_va, .int x_fk, .int x_fp, .ref mfr, .ref mwt, .int x_wt, .int x_op, .int x_jo, .ref mfg, .ref mpl, .long x_dr, .ref mtm, .ref mfa, .ref mqu, .ref mmo, .ref mwy, .ref mwn, .ref mma, .ref mwi, .ref mnu, .ref mmv])), (mma, .inl (c_ma, 4, .inl w_ma)), (mwi, .inl (c_wi, 4, .inl w_wi)), (mnu, .inl (c_nu, 240, .inr (.inl w_nu))), (mmv, .inl (c_mv, 60, .inr (.inl w_mv)))]) [0, 1, 2, 3, 4] (by decide) rfl
                  have hK9 := hK.sub (tys' := [(c_ma, .int), (c_wi, .int), (c_nu, .long), (c_mv, .long)]) [0, 1, 2, 3] rfl
                  exact W.iret (v := (-7)) hx hb hr (fun t ht hW => ⟨⟨(-7), (), rfl, (rg_w (by decide : (-7 : Int) ≤ ((-7) : Int32).toInt ∧ ((-7) : Int32).toInt ≤ -7) (by decide) (by decide)), w_nu, w_mv, by rw [ht]; exact hP9, va_K.moved hW.alike hK9, hD9⟩, hS.F ht⟩) hS.2.2 dX10_paste_109
                ·
                  have n_c_375 : (0 : Int) ≤ a5.toInt := c_nlt rfl (by decide) c_375
                  have b_a5 : (0 : Int) ≤ a5.toInt ∧ a5.toInt ≤ 2147483647 := r_le2 (by decide : (0 : Int) ≤ (0 : Int32).toInt ∧ (0 : Int32).toInt ≤ 0) (ti_rng a5) n_c_375 (by decide)
                  refine lv_iload_n hx hb dX10_paste_72 rfl (lv_at hl 2 rfl) ?_
                  obtain ⟨z_376, e_z_376⟩ : ∃ y : Int64, y = a2.toInt64 := ⟨_, rfl⟩
                  refine lv_i2l (v := z_376) hx hb dX10_paste_73 e_z_376.symm ?_
                  obtain ⟨q_z_376, b_z_376⟩ := ti_i2l e_z_376 b_a2
                  refine lv_iload hx hb dX10_paste_74 (lv_at hl 5 rfl) ?_
                  obtain ⟨z_377, e_z_377⟩ : ∃ y : Int64, y = a5.toInt64 := ⟨_, rfl⟩
                  refine lv_i2l (v := z_377) hx hb dX10_paste_76 e_z_377.symm ?_
                  obtain ⟨q_z_377, b_z_377⟩ := ti_i2l e_z_377 b_a5
                  refine lv_ladd hx hb dX10_paste_77 ?_
                  refine lv_topl (fun z_378 e_z_378 => ?_)
                  obtain ⟨q_z_378, b_z_378⟩ := tl_add (lo := 0) (hi := 4294967294) e_z_378 rfl rfl b_z_376 b_z_377 (by decide)
                  refine lv_aload_n hx hb dX10_paste_78 rfl (lv_at hl 0 rfl) ?_
                  refine va_get (D := (dC, dI)) (ci := 8) (v := .ref mma) (C := RX10) (T := TX10) (N := 33) hx hb hts iX10_paste_X10 hown hK hP 0 rfl rfl 29 (by decide) (hts (.fieldLink RX10 65 "LuckyTicketModel" "many" "[I") (List.mem_of_getElem? (i := 4) rfl)) (fun _ h9 => h9) rfl dX10_paste_79 ?_
                  refine lv_iload_n hx hb dX10_paste_82 rfl (lv_at hl 1 rfl) ?_
                  refine va_iald hx hb hK hP 1 0 rfl rfl (vp_in_b b_a1 (by decide) (by decide)) dX10_paste_83 ?_
                  refine lv_topi (fun z_379 e_z_379 => ?_)
                  have b_z_379 : (-1 : Int) ≤ z_379.toInt ∧ z_379.toInt ≤ 60 := rg_at ha_mma (vp_in_b b_a1 (by decide) (by decide)) e_z_379
                  obtain ⟨z_380, e_z_380⟩ : ∃ y : Int64, y = z_379.toInt64 := ⟨_, rfl⟩
                  refine lv_i2l (v := z_380) hx hb dX10_paste_84 e_z_380.symm ?_
                  obtain ⟨q_z_380, b_z_380⟩ := ti_i2l e_z_380 b_z_379
                  refine W.lcmp hx hb dX10_paste_85 ?_
                  refine lv_if_gt (tgt := 107) hx hb dX10_paste_86 (by decide) (fun c_381 => ?_) (fun c_381 => ?_)
                  ·
                    have n_c_381 : (z_380.toInt : Int) < z_378.toInt := g_gt rfl rfl c_381
                    refine lv_bipush (v := (-7)) hx hb dX10_paste_107 (by decide) ?_
                    have hP9 := hP.sub (ws' := [(o0, .inr (8, [.int x_th, .ref mwo, .ref mim, .ref mhi, .ref mlu, .ref mtp, .int x_td, .ref mfv, .int x_sz, .int x_at, .int x_fr, .int x_to, .int x_va, .int x_fk, .int x_fp, .ref mfr, .ref mwt, .int x_wt, .int x_op, .int x_jo, .ref mfg, .ref mpl, .long x_dr, .ref mtm, .ref mfa, .ref mqu, .ref mmo, .ref mwy, .ref mwn, .ref mma, .ref mwi, .ref mnu, .ref mmv])), (mma, .inl (c_ma, 4, .inl w_ma)), (mwi, .inl (c_wi, 4, .inl w_wi)), (mnu, .inl (c_nu, 240, .inr (.inl w_nu))), (mmv, .inl (c_mv, 60, .inr (.inl w_mv)))]) [0, 1, 2, 3, 4] rfl
                    have hD9 := hD.sub (ws' := [(o0, .inr (8, [.int x_th, .ref mwo, .ref mim, .ref mhi, .ref mlu, .ref mtp, .int x_td, .ref mfv, .int x_sz, .int x_at, .int x_fr, .int x_to, .int x_va, .int x_fk, .int x_fp, .ref mfr, .ref mwt, .int x_wt, .int x_op, .int x_jo, .ref mfg, .ref mpl, .long x_dr, .ref mtm, .ref mfa, .ref mqu, .ref mmo, .ref mwy, .ref mwn, .ref mma, .ref mwi, .ref mnu, .ref mmv])), (mma, .inl (c_ma, 4, .inl w_ma)), (mwi, .inl (c_wi, 4, .inl w_wi)), (mnu, .inl (c_nu, 240, .inr (.inl w_nu))), (mmv, .inl (c_mv, 60, .inr (.inl w_mv)))]) [0, 1, 2, 3, 4] (by decide) rfl
                    have hK9 := hK.sub (tys' := [(c_ma, .int), (c_wi, .int), (c_nu, .long), (c_mv, .long)]) [0, 1, 2, 3] rfl
                    exact W.iret (v := (-7)) hx hb hr (fun t ht hW => ⟨⟨(-7), (), rfl, (rg_w (by decide : (-7 : Int) ≤ ((-7) : Int32).toInt ∧ ((-7) : Int32).toInt ≤ -7) (by decide) (by decide)), w_nu, w_mv, by rw [ht]; exact hP9, va_K.moved hW.alike hK9, hD9⟩, hS.F ht⟩) hS.2.2 dX10_paste_109
                  ·
                    have n_c_381 : (z_378.toInt : Int) ≤ z_380.toInt := g_ngt rfl rfl c_381
                    have b_z_378 : (0 : Int) ≤ z_378.toInt ∧ z_378.toInt ≤ 60 := r_le1 b_z_378 b_z_380 n_c_381 (by decide)
                    have b_z_376 : (0 : Int) ≤ z_376.toInt ∧ z_376.toInt ≤ 60 := by
                      have q0 := b_z_378; have q1 := q_z_378; have q2 := b_z_376; have q3 := b_z_377; omega
                    have b_a2 : (0 : Int) ≤ a2.toInt ∧ a2.toInt ≤ 60 := by
                      have q0 := b_z_376; have q1 := q_z_376; have q2 := b_a2; omega
                    have b_z_377 : (0 : Int) ≤ z_377.toInt ∧ z_377.toInt ≤ 60 := by
                      have q0 := b_z_378; have q1 := q_z_378; have q2 := b_z_377; have q3 := b_z_376; omega
                    have b_a5 : (0 : Int) ≤ a5.toInt ∧ a5.toInt ≤ 60 := by
                      have q0 := b_z_377; have q1 := q_z_377; have q2 := b_a5; omega
                    have b_z_380 : (0 : Int) ≤ z_380.toInt ∧ z_380.toInt ≤ 60 := r_le2 b_z_378 b_z_380 n_c_381 (by decide)
                    have b_z_379 : (0 : Int) ≤ z_379.toInt ∧ z_379.toInt ≤ 60 := by
                      have q0 := b_z_380; have q1 := q_z_380; have q2 := b_z_379; omega
                    refine lv_iload hx hb dX10_paste_89 (lv_at hl 4 rfl) ?_
                    obtain ⟨z_382, e_z_382⟩ : ∃ y : Int64, y = a4.toInt64 := ⟨_, rfl⟩
                    refine lv_i2l (v := z_382) hx hb dX10_paste_91 e_z_382.symm ?_
                    obtain ⟨q_z_382, b_z_382⟩ := ti_i2l e_z_382 b_a4
                    refine lv_iload hx hb dX10_paste_92 (lv_at hl 5 rfl) ?_
                    obtain ⟨z_383, e_z_383⟩ : ∃ y : Int64, y = a5.toInt64 := ⟨_, rfl⟩
                    refine lv_i2l (v := z_383) hx hb dX10_paste_94 e_z_383.symm ?_
                    obtain ⟨q_z_383, b_z_383⟩ := ti_i2l e_z_383 b_a5
                    refine lv_ladd hx hb dX10_paste_95 ?_
                    refine lv_topl (fun z_384 e_z_384 => ?_)
                    obtain ⟨q_z_384, b_z_384⟩ := tl_add (lo := 0) (hi := 2147483707) e_z_384 rfl rfl b_z_382 b_z_383 (by decide)
                    refine lv_aload_n hx hb dX10_paste_96 rfl (lv_at hl 0 rfl) ?_
                    refine va_get (D := (dC, dI)) (ci := 8) (v := .ref mma) (C := RX10) (T := TX10) (N := 33) hx hb hts iX10_paste_X10 hown hK hP 0 rfl rfl 29 (by decide) (hts (.fieldLink RX10 65 "LuckyTicketModel" "many" "[I") (List.mem_of_getElem? (i := 4) rfl)) (fun _ h9 => h9) rfl dX10_paste_97 ?_
                    refine lv_iload_n hx hb dX10_paste_100 rfl (lv_at hl 3 rfl) ?_
                    refine va_iald hx hb hK hP 1 0 rfl rfl (vp_in_b b_a3 (by decide) (by decide)) dX10_paste_101 ?_
                    refine lv_topi (fun z_385 e_z_385 => ?_)
                    have b_z_385 : (-1 : Int) ≤ z_385.toInt ∧ z_385.toInt ≤ 60 := rg_at ha_mma (vp_in_b b_a3 (by decide) (by decide)) e_z_385
                    obtain ⟨z_386, e_z_386⟩ : ∃ y : Int64, y = z_385.toInt64 := ⟨_, rfl⟩
                    refine lv_i2l (v := z_386) hx hb dX10_paste_102 e_z_386.symm ?_
                    obtain ⟨q_z_386, b_z_386⟩ := ti_i2l e_z_386 b_z_385
                    refine W.lcmp hx hb dX10_paste_103 ?_
                    refine lv_if_le (tgt := 110) hx hb dX10_paste_104 (by decide) (fun c_387 => ?_) (fun c_387 => ?_)
                    ·
                      have n_c_387 : (z_384.toInt : Int) ≤ z_386.toInt := g_le rfl rfl c_387
                      have b_z_384 : (0 : Int) ≤ z_384.toInt ∧ z_384.toInt ≤ 60 := r_le1 b_z_384 b_z_386 n_c_387 (by decide)
                      have b_z_382 : (0 : Int) ≤ z_382.toInt ∧ z_382.toInt ≤ 60 := by
                        have q0 := b_z_384; have q1 := q_z_384; have q2 := b_z_382; have q3 := b_z_383; omega
                      have b_a4 : (0 : Int) ≤ a4.toInt ∧ a4.toInt ≤ 60 := by
                        have q0 := b_z_382; have q1 := q_z_382; have q2 := b_a4; omega
                      have b_z_386 : (0 : Int) ≤ z_386.toInt ∧ z_386.toInt ≤ 60 := r_le2 b_z_384 b_z_386 n_c_387 (by decide)
                      have b_z_385 : (0 : Int) ≤ z_385.toInt ∧ z_385.toInt ≤ 60 := by
                        have q0 := b_z_386; have q1 := q_z_386; have q2 := b_z_385; omega
                      refine lv_iconst (v := 0) hx hb dX10_paste_110 (by decide) ?_
                      refine lv_istore (lv' := [(6, .int 0), (0, .ref o0), (1, .int a1), (2, .int a2), (3, .int a3), (4, .int a4), (5, .int a5)]) hx hb dX10_paste_111 hl (by decide) rfl (fun ls hl => ?_)
                      refine loopW (σ := Int32 × (Nat → Int64)) (fun v => (60 - v.1.toInt).toNat) (fun v H locs ls => ((0 : Int) ≤ v.1.toInt ∧ v.1.toInt ≤ 60) ∧ va_P (dC, dI) vwCl [(o0, .inr (8, [.int x_th, .ref mwo, .ref mim, .ref mhi, .ref mlu, .ref mtp, .int x_td, .ref mfv, .int x_sz, .int x_at, .int x_fr, .int x_to, .int x_va, .int x_fk, .int x_fp, .ref mfr, .ref mwt, .int x_wt, .int x_op, .int x_jo, .ref mfg, .ref mpl, .long x_dr, .ref mtm, .ref mfa, .ref mqu, .ref mmo, .ref mwy, .ref mwn, .ref mma, .ref mwi, .ref mnu, .ref mmv])), (mma, .inl (c_ma, 4, .inl w_ma)), (mwi, .inl (c_wi, 4, .inl w_wi)), (mnu, .inl (c_nu, 240, .inr (.inl w_nu))), (mmv, .inl (c_mv, 60, .inr (.inl v.2)))] H ∧ va_D A [(o0, .inr (8, [.int x_th, .ref mwo, .ref mim, .ref mhi, .ref mlu, .ref mtp, .int x_td, .ref mfv, .int x_sz, .int x_at, .int x_fr, .int x_to, .int x_va, .int x_fk, .int x_fp, .ref mfr, .ref mwt, .int x_wt, .int x_op, .int x_jo, .ref mfg, .ref mpl, .long x_dr, .ref mtm, .ref mfa, .ref mqu, .ref mmo, .ref mwy, .ref mwn, .ref mma, .ref mwi, .ref mnu, .ref mmv])), (mma, .inl (c_ma, 4, .inl w_ma)), (mwi, .inl (c_wi, 4, .inl w_wi)), (mnu, .inl (c_nu, 240, .inr (.inl w_nu))), (mmv, .inl (c_mv, 60, .inr (.inl v.2)))] ∧ va_S A s.heap H locs ∧ lv_has ls 7 [(6, .int v.1), (0, .ref o0), (1, .int a1), (2, .int a2), (3, .int a3), (4, .int a4), (5, .int a5)]) (fun v H locs ls hI ih_113_654 => ?_) ((0 : Int32), w_mv) ⟨(show (0 : Int) ≤ (0 : Int32).toInt ∧ (0 : Int32).toInt ≤ 60 from (rg_w (by decide : (0 : Int) ≤ (0 : Int32).toInt ∧ (0 : Int32).toInt ≤ 0) (by decide) (by decide))), hP, hD, hS, lv_sub hl [0, 1, 2, 3, 4, 5, 6] rfl⟩
                      obtain ⟨y_403, f_404⟩ := v
                      obtain ⟨b_y_403, hP, hD, hS, hl⟩ := hI
                      have b_y_403 : (0 : Int) ≤ y_403.toInt ∧ y_403.toInt ≤ 60 := b_y_403
                      have hP : va_P (dC, dI) vwCl [(o0, .inr (8, [.int x_th, .ref mwo, .ref mim, .ref mhi, .ref mlu, .ref mtp, .int x_td, .ref mfv, .int x_sz, .int x_at, .int x_fr, .int x_to, .int x_va, .int x_fk, .int x_fp, .ref mfr, .ref mwt, .int x_wt, .int x_op, .int x_jo, .ref mfg, .ref mpl, .long x_dr, .ref mtm, .ref mfa, .ref mqu, .ref mmo, .ref mwy, .ref mwn, .ref mma, .ref mwi, .ref mnu, .ref mmv])), (mma, .inl (c_ma, 4, .inl w_ma)), (mwi, .inl (c_wi, 4, .inl w_wi)), (mnu, .inl (c_nu, 240, .inr (.inl w_nu))), (mmv, .inl (c_mv, 60, .inr (.inl f_404)))] H := hP
                      have hD : va_D A [(o0, .inr (8, [.int x_th, .ref mwo, .ref mim, .ref mhi, .ref mlu, .ref mtp, .int x_td, .ref mfv, .int x_sz, .int x_at, .int x_fr, .int x_to, .int x_va, .int x_fk, .int x_fp, .ref mfr, .ref mwt, .int x_wt, .int x_op, .int x_jo, .ref mfg, .ref mpl, .long x_dr, .ref mtm, .ref mfa, .ref mqu, .ref mmo, .ref mwy, .ref mwn, .ref mma, .ref mwi, .ref mnu, .ref mmv])), (mma, .inl (c_ma, 4, .inl w_ma)), (mwi, .inl (c_wi, 4, .inl w_wi)), (mnu, .inl (c_nu, 240, .inr (.inl w_nu))), (mmv, .inl (c_mv, 60, .inr (.inl f_404)))] := hD
                      have hl : lv_has ls 7 [(6, .int y_403), (0, .ref o0), (1, .int a1), (2, .int a2), (3, .int a3), (4, .int a4), (5, .int a5)] := hl
                      refine lv_iload hx hb dX10_paste_113 (lv_at hl 0 rfl) ?_
                      refine lv_iload hx hb dX10_paste_115 (lv_at hl 6 rfl) ?_
                      refine lv_icmp_ge (tgt := 147) hx hb dX10_paste_117 (by decide) (fun c_655 => ?_) (fun c_655 => ?_)
                      ·
                        have n_c_655 : (a5.toInt : Int) ≤ y_403.toInt := c_ge rfl rfl c_655
                        refine lv_iconst (v := 0) hx hb dX10_paste_147 (by decide) ?_
                        refine lv_istore (lv' := [(6, .int 0), (0, .ref o0), (1, .int a1), (2, .int a2), (3, .int a3), (4, .int a4), (5, .int a5)]) hx hb dX10_paste_148 hl (by decide) rfl (fun ls hl => ?_)
                        refine loopW (σ := Int32 × (Nat → Int64)) (fun v => (60 - v.1.toInt).toNat) (fun v H locs ls => ((0 : Int) ≤ v.1.toInt ∧ v.1.toInt ≤ 60) ∧ va_P (dC, dI) vwCl [(o0, .inr (8, [.int x_th, .ref mwo, .ref mim, .ref mhi, .ref mlu, .ref mtp, .int x_td, .ref mfv, .int x_sz, .int x_at, .int x_fr, .int x_to, .int x_va, .int x_fk, .int x_fp, .ref mfr, .ref mwt, .int x_wt, .int x_op, .int x_jo, .ref mfg, .ref mpl, .long x_dr, .ref mtm, .ref mfa, .ref mqu, .ref mmo, .ref mwy, .ref mwn, .ref mma, .ref mwi, .ref mnu, .ref mmv])), (mma, .inl (c_ma, 4, .inl w_ma)), (mwi, .inl (c_wi, 4, .inl w_wi)), (mnu, .inl (c_nu, 240, .inr (.inl v.2))), (mmv, .inl (c_mv, 60, .inr (.inl f_404)))] H ∧ va_D A [(o0, .inr (8, [.int x_th, .ref mwo, .ref mim, .ref mhi, .ref mlu, .ref mtp, .int x_td, .ref mfv, .int x_sz, .int x_at, .int x_fr, .int x_to, .int x_va, .int x_fk, .int x_fp, .ref mfr, .ref mwt, .int x_wt, .int x_op, .int x_jo, .ref mfg, .ref mpl, .long x_dr, .ref mtm, .ref mfa, .ref mqu, .ref mmo, .ref mwy, .ref mwn, .ref mma, .ref mwi, .ref mnu, .ref mmv])), (mma, .inl (c_ma, 4, .inl w_ma)), (mwi, .inl (c_wi, 4, .inl w_wi)), (mnu, .inl (c_nu, 240, .inr (.inl v.2))), (mmv, .inl (c_mv, 60, .inr (.inl f_404)))] ∧ va_S A s.heap H locs ∧ lv_has ls 7 [(6, .int v.1), (0, .ref o0), (1, .int a1), (2, .int a2), (3, .int a3), (4, .int a4), (5, .int a5)]) (fun v H locs ls hI ih_150_705 => ?_) ((0 : Int32), w_nu) ⟨(show (0 : Int) ≤ (0 : Int32).toInt ∧ (0 : Int32).toInt ≤ 60 from (rg_w (by decide : (0 : Int) ≤ (0 : Int32).toInt ∧ (0 : Int32).toInt ≤ 0) (by decide) (by decide))), hP, hD, hS, lv_sub hl [0, 1, 2, 3, 4, 5, 6] rfl⟩
                        obtain ⟨y_669, f_670⟩ := v
                        obtain ⟨b_y_669, hP, hD, hS, hl⟩ := hI
                        have b_y_669 : (0 : Int) ≤ y_669.toInt ∧ y_669.toInt ≤ 60 := b_y_669
                        have hP : va_P (dC, dI) vwCl [(o0, .inr (8, [.int x_th, .ref mwo, .ref mim, .ref mhi, .ref mlu, .ref mtp, .int x_td, .ref mfv, .int x_sz, .int x_at, .int x_fr, .int x_to, .int x_va, .int x_fk, .int x_fp, .ref mfr, .ref mwt, .int x_wt, .int x_op, .int x_jo, .ref mfg, .ref mpl, .long x_dr, .ref mtm, .ref mfa, .ref mqu, .ref mmo, .ref mwy, .ref mwn, .ref mma, .ref mwi, .ref mnu, .ref mmv])), (mma, .inl (c_ma, 4, .inl w_ma)), (mwi, .inl (c_wi, 4, .inl w_wi)), (mnu, .inl (c_nu, 240, .inr (.inl f_670))), (mmv, .inl (c_mv, 60, .inr (.inl f_404)))] H := hP
                        have hD : va_D A [(o0, .inr (8, [.int x_th, .ref mwo, .ref mim, .ref mhi, .ref mlu, .ref mtp, .int x_td, .ref mfv, .int x_sz, .int x_at, .int x_fr, .int x_to, .int x_va, .int x_fk, .int x_fp, .ref mfr, .ref mwt, .int x_wt, .int x_op, .int x_jo, .ref mfg, .ref mpl, .long x_dr, .ref mtm, .ref mfa, .ref mqu, .ref mmo, .ref mwy, .ref mwn, .ref mma, .ref mwi, .ref mnu, .ref mmv])), (mma, .inl (c_ma, 4, .inl w_ma)), (mwi, .inl (c_wi, 4, .inl w_wi)), (mnu, .inl (c_nu, 240, .inr (.inl f_670))), (mmv, .inl (c_mv, 60, .inr (.inl f_404)))] := hD
                        have hl : lv_has ls 7 [(6, .int y_669), (0, .ref o0), (1, .int a1), (2, .int a2), (3, .int a3), (4, .int a4), (5, .int a5)] := hl
                        refine lv_iload hx hb dX10_paste_150 (lv_at hl 0 rfl) ?_
                        refine lv_iload hx hb dX10_paste_152 (lv_at hl 6 rfl) ?_
                        refine lv_icmp_ge (tgt := 185) hx hb dX10_paste_154 (by decide) (fun c_706 => ?_) (fun c_706 => ?_)
                        ·
                          have n_c_706 : (a5.toInt : Int) ≤ y_669.toInt := c_ge rfl rfl c_706
                          refine lv_iconst (v := 0) hx hb dX10_paste_185 (by decide) ?_
                          have hP9 := hP.sub (ws' := [(o0, .inr (8, [.int x_th, .ref mwo, .ref mim, .ref mhi, .ref mlu, .ref mtp, .int x_td, .ref mfv, .int x_sz, .int x_at, .int x_fr, .int x_to, .int x_va, .int x_fk, .int x_fp, .ref mfr, .ref mwt, .int x_wt, .int x_op, .int x_jo, .ref mfg, .ref mpl, .long x_dr, .ref mtm, .ref mfa, .ref mqu, .ref mmo, .ref mwy, .ref mwn, .ref mma, .ref mwi, .ref mnu, .ref mmv])), (mma, .inl (c_ma, 4, .inl w_ma)), (mwi, .inl (c_wi, 4, .inl w_wi)), (mnu, .inl (c_nu, 240, .inr (.inl f_670))), (mmv, .inl (c_mv, 60, .inr (.inl f_404)))]) [0, 1, 2, 3, 4] rfl
                          have hD9 := hD.sub (ws' := [(o0, .inr (8, [.int x_th, .ref mwo, .ref mim, .ref mhi, .ref mlu, .ref mtp, .int x_td, .ref mfv, .int x_sz, .int x_at, .int x_fr, .int x_to, .int x_va, .int x_fk, .int x_fp, .ref mfr, .ref mwt, .int x_wt, .int x_op, .int x_jo, .ref mfg, .ref mpl, .long x_dr, .ref mtm, .ref mfa, .ref mqu, .ref mmo, .ref mwy, .ref mwn, .ref mma, .ref mwi, .ref mnu, .ref mmv])), (mma, .inl (c_ma, 4, .inl w_ma)), (mwi, .inl (c_wi, 4, .inl w_wi)), (mnu, .inl (c_nu, 240, .inr (.inl f_670))), (mmv, .inl (c_mv, 60, .inr (.inl f_404)))]) [0, 1, 2, 3, 4] (by decide) rfl
                          have hK9 := hK.sub (tys' := [(c_ma, .int), (c_wi, .int), (c_nu, .long), (c_mv, .long)]) [0, 1, 2, 3] rfl
                          exact W.iret (v := 0) hx hb hr (fun t ht hW => ⟨⟨0, (), rfl, (rg_w (by decide : (0 : Int) ≤ (0 : Int32).toInt ∧ (0 : Int32).toInt ≤ 0) (by decide) (by decide)), f_670, f_404, by rw [ht]; exact hP9, va_K.moved hW.alike hK9, hD9⟩, hS.F ht⟩) hS.2.2 dX10_paste_186
                        ·
                          have n_c_706 : (y_669.toInt : Int) < a5.toInt := c_nge rfl rfl c_706
                          have b_y_669 : (0 : Int) ≤ y_669.toInt ∧ y_669.toInt ≤ 59 := r_lt1 b_y_669 b_a5 n_c_706 (by decide)
                          have b_a5 : (1 : Int) ≤ a5.toInt ∧ a5.toInt ≤ 60 := r_lt2 b_y_669 b_a5 n_c_706 (by decide)
                          refine lv_aload_n hx hb dX10_paste_157 rfl (lv_at hl 1 rfl) ?_
                          refine va_get (D := (dC, dI)) (ci := 8) (v := .ref mnu) (C := RX10) (T := TX10) (N := 33) hx hb hts iX10_paste_X10 hown hK hP 0 rfl rfl 31 (by decide) (hts (.fieldLink RX10 71 "LuckyTicketModel" "numbers" "[J") (List.mem_of_getElem? (i := 7) rfl)) (fun _ h9 => h9) rfl dX10_paste_158 ?_
                          refine lv_bipush (v := 60) hx hb dX10_paste_161 (by decide) ?_
                          refine lv_iload_n hx hb dX10_paste_163 rfl (lv_at hl 4 rfl) ?_
                          refine lv_imul hx hb dX10_paste_164 ?_
                          refine lv_topi (fun z_707 e_z_707 => ?_)
                          obtain ⟨q_z_707, b_z_707⟩ := ti_mul (lo := 0) (hi := 180) e_z_707 (by decide : (60 : Int32).toInt = 60) rfl (by decide : (60 : Int) ≤ (60 : Int32).toInt ∧ (60 : Int32).toInt ≤ 60) b_a3 (by decide)
                          refine lv_iload hx hb dX10_paste_165 (lv_at hl 5 rfl) ?_
                          refine lv_iadd hx hb dX10_paste_167 ?_
                          refine lv_topi (fun z_708 e_z_708 => ?_)
                          obtain ⟨q_z_708, b_z_708⟩ := ti_add (lo := 0) (hi := 240) e_z_708 rfl rfl b_z_707 b_a4 (by decide)
                          refine lv_iload hx hb dX10_paste_168 (lv_at hl 0 rfl) ?_
                          refine lv_iadd hx hb dX10_paste_170 ?_
                          refine lv_topi (fun z_709 e_z_709 => ?_)
                          obtain ⟨q_z_709, b_z_709⟩ := ti_add (lo := 0) (hi := 299) e_z_709 rfl rfl b_z_708 b_y_669 (by decide)
                          refine lv_aload_n hx hb dX10_paste_171 rfl (lv_at hl 1 rfl) ?_
                          refine va_get (D := (dC, dI)) (ci := 8) (v := .ref mmv) (C := RX10) (T := TX10) (N := 33) hx hb hts iX10_paste_X10 hown hK hP 0 rfl rfl 32 (by decide) (hts (.fieldLink RX10 74 "LuckyTicketModel" "moving" "[J") (List.mem_of_getElem? (i := 6) rfl)) (fun _ h9 => h9) rfl dX10_paste_172 ?_
                          refine lv_iload hx hb dX10_paste_175 (lv_at hl 0 rfl) ?_
                          refine va_lald hx hb hK hP 4 3 rfl rfl (vp_in_b b_y_669 (by decide) (by decide)) dX10_paste_177 ?_
                          refine lv_topl (fun z_710 e_z_710 => ?_)
                          refine va_last hx hb hK hP hD hS 3 2 rfl rfl (vp_in_iff.mpr ⟨by omega, by omega⟩) dX10_paste_178 (fun H locs hP hD hS => ?_)
                          have hP : va_P (dC, dI) vwCl [(o0, .inr (8, [.int x_th, .ref mwo, .ref mim, .ref mhi, .ref mlu, .ref mtp, .int x_td, .ref mfv, .int x_sz, .int x_at, .int x_fr, .int x_to, .int x_va, .int x_fk, .int x_fp, .ref mfr, .ref mwt, .int x_wt, .int x_op, .int x_jo, .ref mfg, .ref mpl, .long x_dr, .ref mtm, .ref mfa, .ref mqu, .ref mmo, .ref mwy, .ref mwn, .ref mma, .ref mwi, .ref mnu, .ref mmv])), (mma, .inl (c_ma, 4, .inl w_ma)), (mwi, .inl (c_wi, 4, .inl w_wi)), (mnu, .inl (c_nu, 240, .inr (.inl (vp_updL f_670 (z_709 : Int32).toNatClampNeg z_710)))), (mmv, .inl (c_mv, 60, .inr (.inl f_404)))] H := hP
                          have hD : va_D A [(o0, .inr (8, [.int x_th, .ref mwo, .ref mim, .ref mhi, .ref mlu, .ref mtp, .int x_td, .ref mfv, .int x_sz, .int x_at, .int x_fr, .int x_to, .int x_va, .int x_fk, .int x_fp, .ref mfr, .ref mwt, .int x_wt, .int x_op, .int x_jo, .ref mfg, .ref mpl, .long x_dr, .ref mtm, .ref mfa, .ref mqu, .ref mmo, .ref mwy, .ref mwn, .ref mma, .ref mwi, .ref mnu, .ref mmv])), (mma, .inl (c_ma, 4, .inl w_ma)), (mwi, .inl (c_wi, 4, .inl w_wi)), (mnu, .inl (c_nu, 240, .inr (.inl (vp_updL f_670 (z_709 : Int32).toNatClampNeg z_710)))), (mmv, .inl (c_mv, 60, .inr (.inl f_404)))] := hD
                          generalize (vp_updL f_670 (z_709 : Int32).toNatClampNeg z_710) = f_711 at hP hD
                          have hP : va_P (dC, dI) vwCl [(o0, .inr (8, [.int x_th, .ref mwo, .ref mim, .ref mhi, .ref mlu, .ref mtp, .int x_td, .ref mfv, .int x_sz, .int x_at, .int x_fr, .int x_to, .int x_va, .int x_fk, .int x_fp, .ref mfr, .ref mwt, .int x_wt, .int x_op, .int x_jo, .ref mfg, .ref mpl, .long x_dr, .ref mtm, .ref mfa, .ref mqu, .ref mmo, .ref mwy, .ref mwn, .ref mma, .ref mwi, .ref mnu, .ref mmv])), (mma, .inl (c_ma, 4, .inl w_ma)), (mwi, .inl (c_wi, 4, .inl w_wi)), (mnu, .inl (c_nu, 240, .inr (.inl f_711))), (mmv, .inl (c_mv, 60, .inr (.inl f_404)))] H := hP
                          have hD : va_D A [(o0, .inr (8, [.int x_th, .ref mwo, .ref mim, .ref mhi, .ref mlu, .ref mtp, .int x_td, .ref mfv, .int x_sz, .int x_at, .int x_fr, .int x_to, .int x_va, .int x_fk, .int x_fp, .ref mfr, .ref mwt, .int x_wt, .int x_op, .int x_jo, .ref mfg, .ref mpl, .long x_dr, .ref mtm, .ref mfa, .ref mqu, .ref mmo, .ref mwy, .ref mwn, .ref mma, .ref mwi, .ref mnu, .ref mmv])), (mma, .inl (c_ma, 4, .inl w_ma)), (mwi, .inl (c_wi, 4, .inl w_wi)), (mnu, .inl (c_nu, 240, .inr (.inl f_711))), (mmv, .inl (c_mv, 60, .inr (.inl f_404)))] := hD
                          obtain ⟨z_712, e_z_712⟩ : ∃ y : Int32, y = y_669 + 1 := ⟨_, rfl⟩
                          refine lv_iinc (v := z_712) (lv' := [(6, .int z_712), (0, .ref o0), (1, .int a1), (2, .int a2), (3, .int a3), (4, .int a4), (5, .int a5)]) hx hb dX10_paste_179 hl (k := 0) rfl (by rw [e_z_712]; rfl) (by decide) rfl (fun ls hl => ?_)
                          obtain ⟨q_z_712, b_z_712⟩ := ti_add (lo := 1) (hi := 60) e_z_712 rfl (by decide : (1 : Int32).toInt = 1) b_y_669 (by decide : (1 : Int) ≤ (1 : Int32).toInt ∧ (1 : Int32).toInt ≤ 1) (by decide)
                          refine lv_goto (tgt := 150) hx hb dX10_paste_182 (by decide) ?_
                          exact ih_150_705 (z_712, f_711) _ _ _ ⟨(show (0 : Int) ≤ z_712.toInt ∧ z_712.toInt ≤ 60 from (rg_w b_z_712 (by decide) (by decide))), hP, hD, hS, lv_sub hl [0, 1, 2, 3, 4, 5, 6] rfl⟩ (show (60 - z_712.toInt).toNat < (60 - y_669.toInt).toNat by omega)
                      ·
                        have n_c_655 : (y_403.toInt : Int) < a5.toInt := c_nge rfl rfl c_655
                        have b_y_403 : (0 : Int) ≤ y_403.toInt ∧ y_403.toInt ≤ 59 := r_lt1 b_y_403 b_a5 n_c_655 (by decide)
                        have b_a5 : (1 : Int) ≤ a5.toInt ∧ a5.toInt ≤ 60 := r_lt2 b_y_403 b_a5 n_c_655 (by decide)
                        refine lv_aload_n hx hb dX10_paste_120 rfl (lv_at hl 1 rfl) ?_
                        refine va_get (D := (dC, dI)) (ci := 8) (v := .ref mmv) (C := RX10) (T := TX10) (N := 33) hx hb hts iX10_paste_X10 hown hK hP 0 rfl rfl 32 (by decide) (hts (.fieldLink RX10 74 "LuckyTicketModel" "moving" "[J") (List.mem_of_getElem? (i := 6) rfl)) (fun _ h9 => h9) rfl dX10_paste_121 ?_
                        refine lv_iload hx hb dX10_paste_124 (lv_at hl 0 rfl) ?_
                        refine lv_aload_n hx hb dX10_paste_126 rfl (lv_at hl 1 rfl) ?_
                        refine va_get (D := (dC, dI)) (ci := 8) (v := .ref mnu) (C := RX10) (T := TX10) (N := 33) hx hb hts iX10_paste_X10 hown hK hP 0 rfl rfl 31 (by decide) (hts (.fieldLink RX10 71 "LuckyTicketModel" "numbers" "[J") (List.mem_of_getElem? (i := 7) rfl)) (fun _ h9 => h9) rfl dX10_paste_127 ?_
                        refine lv_bipush (v := 60) hx hb dX10_paste_130 (by decide) ?_
                        refine lv_iload_n hx hb dX10_paste_132 rfl (lv_at hl 2 rfl) ?_
                        refine lv_imul hx hb dX10_paste_133 ?_
                        refine lv_topi (fun z_713 e_z_713 => ?_)
                        obtain ⟨q_z_713, b_z_713⟩ := ti_mul (lo := 0) (hi := 180) e_z_713 (by decide : (60 : Int32).toInt = 60) rfl (by decide : (60 : Int) ≤ (60 : Int32).toInt ∧ (60 : Int32).toInt ≤ 60) b_a1 (by decide)
                        refine lv_iload_n hx hb dX10_paste_134 rfl (lv_at hl 3 rfl) ?_
                        refine lv_iadd hx hb dX10_paste_135 ?_
                        refine lv_topi (fun z_714 e_z_714 => ?_)
                        obtain ⟨q_z_714, b_z_714⟩ := ti_add (lo := 0) (hi := 240) e_z_714 rfl rfl b_z_713 b_a2 (by decide)
                        refine lv_iload hx hb dX10_paste_136 (lv_at hl 0 rfl) ?_
                        refine lv_iadd hx hb dX10_paste_138 ?_
                        refine lv_topi (fun z_715 e_z_715 => ?_)
                        obtain ⟨q_z_715, b_z_715⟩ := ti_add (lo := 0) (hi := 299) e_z_715 rfl rfl b_z_714 b_y_403 (by decide)
                        refine va_lald hx hb hK hP 3 2 rfl rfl (vp_in_iff.mpr ⟨by omega, by omega⟩) dX10_paste_139 ?_
                        refine lv_topl (fun z_716 e_z_716 => ?_)
                        refine va_last hx hb hK hP hD hS 4 3 rfl rfl (vp_in_b b_y_403 (by decide) (by decide)) dX10_paste_140 (fun H locs hP hD hS => ?_)
                        have hP : va_P (dC, dI) vwCl [(o0, .inr (8, [.int x_th, .ref mwo, .ref mim, .ref mhi, .ref mlu, .ref mtp, .int x_td, .ref mfv, .int x_sz, .int x_at, .int x_fr, .int x_to, .int x_va, .int x_fk, .int x_fp, .ref mfr, .ref mwt, .int x_wt, .int x_op, .int x_jo, .ref mfg, .ref mpl, .long x_dr, .ref mtm, .ref mfa, .ref mqu, .ref mmo, .ref mwy, .ref mwn, .ref mma, .ref mwi, .ref mnu, .ref mmv])), (mma, .inl (c_ma, 4, .inl w_ma)), (mwi, .inl (c_wi, 4, .inl w_wi)), (mnu, .inl (c_nu, 240, .inr (.inl w_nu))), (mmv, .inl (c_mv, 60, .inr (.inl (vp_updL f_404 (y_403 : Int32).toNatClampNeg z_716))))] H := hP
                        have hD : va_D A [(o0, .inr (8, [.int x_th, .ref mwo, .ref mim, .ref mhi, .ref mlu, .ref mtp, .int x_td, .ref mfv, .int x_sz, .int x_at, .int x_fr, .int x_to, .int x_va, .int x_fk, .int x_fp, .ref mfr, .ref mwt, .int x_wt, .int x_op, .int x_jo, .ref mfg, .ref mpl, .long x_dr, .ref mtm, .ref mfa, .ref mqu, .ref mmo, .ref mwy, .ref mwn, .ref mma, .ref mwi, .ref mnu, .ref mmv])), (mma, .inl (c_ma, 4, .inl w_ma)), (mwi, .inl (c_wi, 4, .inl w_wi)), (mnu, .inl (c_nu, 240, .inr (.inl w_nu))), (mmv, .inl (c_mv, 60, .inr (.inl (vp_updL f_404 (y_403 : Int32).toNatClampNeg z_716))))] := hD
                        generalize (vp_updL f_404 (y_403 : Int32).toNatClampNeg z_716) = f_717 at hP hD
                        have hP : va_P (dC, dI) vwCl [(o0, .inr (8, [.int x_th, .ref mwo, .ref mim, .ref mhi, .ref mlu, .ref mtp, .int x_td, .ref mfv, .int x_sz, .int x_at, .int x_fr, .int x_to, .int x_va, .int x_fk, .int x_fp, .ref mfr, .ref mwt, .int x_wt, .int x_op, .int x_jo, .ref mfg, .ref mpl, .long x_dr, .ref mtm, .ref mfa, .ref mqu, .ref mmo, .ref mwy, .ref mwn, .ref mma, .ref mwi, .ref mnu, .ref mmv])), (mma, .inl (c_ma, 4, .inl w_ma)), (mwi, .inl (c_wi, 4, .inl w_wi)), (mnu, .inl (c_nu, 240, .inr (.inl w_nu))), (mmv, .inl (c_mv, 60, .inr (.inl f_717)))] H := hP
                        have hD : va_D A [(o0, .inr (8, [.int x_th, .ref mwo, .ref mim, .ref mhi, .ref mlu, .ref mtp, .int x_td, .ref mfv, .int x_sz, .int x_at, .int x_fr, .int x_to, .int x_va, .int x_fk, .int x_fp, .ref mfr, .ref mwt, .int x_wt, .int x_op, .int x_jo, .ref mfg, .ref mpl, .long x_dr, .ref mtm, .ref mfa, .ref mqu, .ref mmo, .ref mwy, .ref mwn, .ref mma, .ref mwi, .ref mnu, .ref mmv])), (mma, .inl (c_ma, 4, .inl w_ma)), (mwi, .inl (c_wi, 4, .inl w_wi)), (mnu, .inl (c_nu, 240, .inr (.inl w_nu))), (mmv, .inl (c_mv, 60, .inr (.inl f_717)))] := hD
                        obtain ⟨z_718, e_z_718⟩ : ∃ y : Int32, y = y_403 + 1 := ⟨_, rfl⟩
                        refine lv_iinc (v := z_718) (lv' := [(6, .int z_718), (0, .ref o0), (1, .int a1), (2, .int a2), (3, .int a3), (4, .int a4), (5, .int a5)]) hx hb dX10_paste_141 hl (k := 0) rfl (by rw [e_z_718]; rfl) (by decide) rfl (fun ls hl => ?_)
                        obtain ⟨q_z_718, b_z_718⟩ := ti_add (lo := 1) (hi := 60) e_z_718 rfl (by decide : (1 : Int32).toInt = 1) b_y_403 (by decide : (1 : Int) ≤ (1 : Int32).toInt ∧ (1 : Int32).toInt ≤ 1) (by decide)
                        refine lv_goto (tgt := 113) hx hb dX10_paste_144 (by decide) ?_
                        exact ih_113_654 (z_718, f_717) _ _ _ ⟨(show (0 : Int) ≤ z_718.toInt ∧ z_718.toInt ≤ 60 from (rg_w b_z_718 (by decide) (by decide))), hP, hD, hS, lv_sub hl [0, 1, 2, 3, 4, 5, 6] rfl⟩ (show (60 - z_718.toInt).toNat < (60 - y_403.toInt).toNat by omega)
                    ·
                      have n_c_387 : (z_386.toInt : Int) < z_384.toInt := g_nle rfl rfl c_387
                      refine lv_bipush (v := (-7)) hx hb dX10_paste_107 (by decide) ?_
                      have hP9 := hP.sub (ws' := [(o0, .inr (8, [.int x_th, .ref mwo, .ref mim, .ref mhi, .ref mlu, .ref mtp, .int x_td, .ref mfv, .int x_sz, .int x_at, .int x_fr, .int x_to, .int x_va, .int x_fk, .int x_fp, .ref mfr, .ref mwt, .int x_wt, .int x_op, .int x_jo, .ref mfg, .ref mpl, .long x_dr, .ref mtm, .ref mfa, .ref mqu, .ref mmo, .ref mwy, .ref mwn, .ref mma, .ref mwi, .ref mnu, .ref mmv])), (mma, .inl (c_ma, 4, .inl w_ma)), (mwi, .inl (c_wi, 4, .inl w_wi)), (mnu, .inl (c_nu, 240, .inr (.inl w_nu))), (mmv, .inl (c_mv, 60, .inr (.inl w_mv)))]) [0, 1, 2, 3, 4] rfl
                      have hD9 := hD.sub (ws' := [(o0, .inr (8, [.int x_th, .ref mwo, .ref mim, .ref mhi, .ref mlu, .ref mtp, .int x_td, .ref mfv, .int x_sz, .int x_at, .int x_fr, .int x_to, .int x_va, .int x_fk, .int x_fp, .ref mfr, .ref mwt, .int x_wt, .int x_op, .int x_jo, .ref mfg, .ref mpl, .long x_dr, .ref mtm, .ref mfa, .ref mqu, .ref mmo, .ref mwy, .ref mwn, .ref mma, .ref mwi, .ref mnu, .ref mmv])), (mma, .inl (c_ma, 4, .inl w_ma)), (mwi, .inl (c_wi, 4, .inl w_wi)), (mnu, .inl (c_nu, 240, .inr (.inl w_nu))), (mmv, .inl (c_mv, 60, .inr (.inl w_mv)))]) [0, 1, 2, 3, 4] (by decide) rfl
                      have hK9 := hK.sub (tys' := [(c_ma, .int), (c_wi, .int), (c_nu, .long), (c_mv, .long)]) [0, 1, 2, 3] rfl
                      exact W.iret (v := (-7)) hx hb hr (fun t ht hW => ⟨⟨(-7), (), rfl, (rg_w (by decide : (-7 : Int) ≤ ((-7) : Int32).toInt ∧ ((-7) : Int32).toInt ≤ -7) (by decide) (by decide)), w_nu, w_mv, by rw [ht]; exact hP9, va_K.moved hW.alike hK9, hD9⟩, hS.F ht⟩) hS.2.2 dX10_paste_109
          ·
            have n_c_372 : (z_370.toInt : Int) ≠ z_371.toInt := c_ne rfl rfl c_372
            refine lv_bipush (v := (-8)) hx hb dX10_paste_55 (by decide) ?_
            have hP9 := hP.sub (ws' := [(o0, .inr (8, [.int x_th, .ref mwo, .ref mim, .ref mhi, .ref mlu, .ref mtp, .int x_td, .ref mfv, .int x_sz, .int x_at, .int x_fr, .int x_to, .int x_va, .int x_fk, .int x_fp, .ref mfr, .ref mwt, .int x_wt, .int x_op, .int x_jo, .ref mfg, .ref mpl, .long x_dr, .ref mtm, .ref mfa, .ref mqu, .ref mmo, .ref mwy, .ref mwn, .ref mma, .ref mwi, .ref mnu, .ref mmv])), (mma, .inl (c_ma, 4, .inl w_ma)), (mwi, .inl (c_wi, 4, .inl w_wi)), (mnu, .inl (c_nu, 240, .inr (.inl w_nu))), (mmv, .inl (c_mv, 60, .inr (.inl w_mv)))]) [0, 1, 2, 3, 4] rfl
            have hD9 := hD.sub (ws' := [(o0, .inr (8, [.int x_th, .ref mwo, .ref mim, .ref mhi, .ref mlu, .ref mtp, .int x_td, .ref mfv, .int x_sz, .int x_at, .int x_fr, .int x_to, .int x_va, .int x_fk, .int x_fp, .ref mfr, .ref mwt, .int x_wt, .int x_op, .int x_jo, .ref mfg, .ref mpl, .long x_dr, .ref mtm, .ref mfa, .ref mqu, .ref mmo, .ref mwy, .ref mwn, .ref mma, .ref mwi, .ref mnu, .ref mmv])), (mma, .inl (c_ma, 4, .inl w_ma)), (mwi, .inl (c_wi, 4, .inl w_wi)), (mnu, .inl (c_nu, 240, .inr (.inl w_nu))), (mmv, .inl (c_mv, 60, .inr (.inl w_mv)))]) [0, 1, 2, 3, 4] (by decide) rfl
            have hK9 := hK.sub (tys' := [(c_ma, .int), (c_wi, .int), (c_nu, .long), (c_mv, .long)]) [0, 1, 2, 3] rfl
            exact W.iret (v := (-8)) hx hb hr (fun t ht hW => ⟨⟨(-8), (), rfl, (rg_w (by decide : (-8 : Int) ≤ ((-8) : Int32).toInt ∧ ((-8) : Int32).toInt ≤ -8) (by decide) (by decide)), w_nu, w_mv, by rw [ht]; exact hP9, va_K.moved hW.alike hK9, hD9⟩, hS.F ht⟩) hS.2.2 dX10_paste_57
        ·
          have n_c_369 : (z_368.toInt : Int) = (-1) := c_eq rfl (by decide) c_369
          have b_z_368 : (-1 : Int) ≤ z_368.toInt ∧ z_368.toInt ≤ -1 := r_eq1 b_z_368 (by decide : (-1 : Int) ≤ ((-1) : Int32).toInt ∧ ((-1) : Int32).toInt ≤ -1) n_c_369 (by decide)
          refine lv_bipush (v := (-6)) hx hb dX10_paste_37 (by decide) ?_
          have hP9 := hP.sub (ws' := [(o0, .inr (8, [.int x_th, .ref mwo, .ref mim, .ref mhi, .ref mlu, .ref mtp, .int x_td, .ref mfv, .int x_sz, .int x_at, .int x_fr, .int x_to, .int x_va, .int x_fk, .int x_fp, .ref mfr, .ref mwt, .int x_wt, .int x_op, .int x_jo, .ref mfg, .ref mpl, .long x_dr, .ref mtm, .ref mfa, .ref mqu, .ref mmo, .ref mwy, .ref mwn, .ref mma, .ref mwi, .ref mnu, .ref mmv])), (mma, .inl (c_ma, 4, .inl w_ma)), (mwi, .inl (c_wi, 4, .inl w_wi)), (mnu, .inl (c_nu, 240, .inr (.inl w_nu))), (mmv, .inl (c_mv, 60, .inr (.inl w_mv)))]) [0, 1, 2, 3, 4] rfl
          have hD9 := hD.sub (ws' := [(o0, .inr (8, [.int x_th, .ref mwo, .ref mim, .ref mhi, .ref mlu, .ref mtp, .int x_td, .ref mfv, .int x_sz, .int x_at, .int x_fr, .int x_to, .int x_va, .int x_fk, .int x_fp, .ref mfr, .ref mwt, .int x_wt, .int x_op, .int x_jo, .ref mfg, .ref mpl, .long x_dr, .ref mtm, .ref mfa, .ref mqu, .ref mmo, .ref mwy, .ref mwn, .ref mma, .ref mwi, .ref mnu, .ref mmv])), (mma, .inl (c_ma, 4, .inl w_ma)), (mwi, .inl (c_wi, 4, .inl w_wi)), (mnu, .inl (c_nu, 240, .inr (.inl w_nu))), (mmv, .inl (c_mv, 60, .inr (.inl w_mv)))]) [0, 1, 2, 3, 4] (by decide) rfl
          have hK9 := hK.sub (tys' := [(c_ma, .int), (c_wi, .int), (c_nu, .long), (c_mv, .long)]) [0, 1, 2, 3] rfl
          exact W.iret (v := (-6)) hx hb hr (fun t ht hW => ⟨⟨(-6), (), rfl, (rg_w (by decide : (-6 : Int) ≤ ((-6) : Int32).toInt ∧ ((-6) : Int32).toInt ≤ -6) (by decide) (by decide)), w_nu, w_mv, by rw [ht]; exact hP9, va_K.moved hW.alike hK9, hD9⟩, hS.F ht⟩) hS.2.2 dX10_paste_39
    ·
      have n_c_364 : (r_363.toInt : Int) = 0 := c_eq rfl (by decide) c_364
      have b_r_363 : (0 : Int) ≤ r_363.toInt ∧ r_363.toInt ≤ 0 := r_eq1 b_r_363 (by decide : (0 : Int) ≤ (0 : Int32).toInt ∧ (0 : Int32).toInt ≤ 0) n_c_364 (by decide)
      refine lv_bipush (v := (-2)) hx hb dX10_paste_14 (by decide) ?_
      have hP9 := hP.sub (ws' := [(o0, .inr (8, [.int x_th, .ref mwo, .ref mim, .ref mhi, .ref mlu, .ref mtp, .int x_td, .ref mfv, .int x_sz, .int x_at, .int x_fr, .int x_to, .int x_va, .int x_fk, .int x_fp, .ref mfr, .ref mwt, .int x_wt, .int x_op, .int x_jo, .ref mfg, .ref mpl, .long x_dr, .ref mtm, .ref mfa, .ref mqu, .ref mmo, .ref mwy, .ref mwn, .ref mma, .ref mwi, .ref mnu, .ref mmv])), (mma, .inl (c_ma, 4, .inl w_ma)), (mwi, .inl (c_wi, 4, .inl w_wi)), (mnu, .inl (c_nu, 240, .inr (.inl w_nu))), (mmv, .inl (c_mv, 60, .inr (.inl w_mv)))]) [0, 1, 2, 3, 4] rfl
      have hD9 := hD.sub (ws' := [(o0, .inr (8, [.int x_th, .ref mwo, .ref mim, .ref mhi, .ref mlu, .ref mtp, .int x_td, .ref mfv, .int x_sz, .int x_at, .int x_fr, .int x_to, .int x_va, .int x_fk, .int x_fp, .ref mfr, .ref mwt, .int x_wt, .int x_op, .int x_jo, .ref mfg, .ref mpl, .long x_dr, .ref mtm, .ref mfa, .ref mqu, .ref mmo, .ref mwy, .ref mwn, .ref mma, .ref mwi, .ref mnu, .ref mmv])), (mma, .inl (c_ma, 4, .inl w_ma)), (mwi, .inl (c_wi, 4, .inl w_wi)), (mnu, .inl (c_nu, 240, .inr (.inl w_nu))), (mmv, .inl (c_mv, 60, .inr (.inl w_mv)))]) [0, 1, 2, 3, 4] (by decide) rfl
      have hK9 := hK.sub (tys' := [(c_ma, .int), (c_wi, .int), (c_nu, .long), (c_mv, .long)]) [0, 1, 2, 3] rfl
      exact W.iret (v := (-2)) hx hb hr (fun t ht hW => ⟨⟨(-2), (), rfl, (rg_w (by decide : (-2 : Int) ≤ ((-2) : Int32).toInt ∧ ((-2) : Int32).toInt ≤ -2) (by decide) (by decide)), w_nu, w_mv, by rw [ht]; exact hP9, va_K.moved hW.alike hK9, hD9⟩, hS.F ht⟩) hS.2.2 dX10_paste_16
theorem dX10_count_0 : decode cX10_count 0 = .ok (.iconst 0, 1) := by decide +kernel
theorem dX10_count_1 : decode cX10_count 1 = .ok (.istore_n 2, 1) := by decide +kernel
theorem dX10_count_2 : decode cX10_count 2 = .ok (.iload_n 1, 1) := by decide +kernel
theorem dX10_count_3 : decode cX10_count 3 = .ok (.tableswitch 155 0 7 #[45, 52, 59, 66, 73, 80, 85, 122], 45) := by decide +kernel
theorem dX10_count_48 : decode cX10_count 48 = .ok (.aload_n 0, 1) := by decide +kernel
theorem dX10_count_49 : decode cX10_count 49 = .ok (.getfield 9, 3) := by decide +kernel
theorem dX10_count_52 : decode cX10_count 52 = .ok (.iconst 0, 1) := by decide +kernel
theorem dX10_count_53 : decode cX10_count 53 = .ok (.iaload, 1) := by decide +kernel
theorem dX10_count_54 : decode cX10_count 54 = .ok (.ireturn, 1) := by decide +kernel
theorem dX10_count_55 : decode cX10_count 55 = .ok (.aload_n 0, 1) := by decide +kernel
theorem dX10_count_56 : decode cX10_count 56 = .ok (.getfield 9, 3) := by decide +kernel
theorem dX10_count_59 : decode cX10_count 59 = .ok (.iconst 1, 1) := by decide +kernel
theorem dX10_count_60 : decode cX10_count 60 = .ok (.iaload, 1) := by decide +kernel
theorem dX10_count_61 : decode cX10_count 61 = .ok (.ireturn, 1) := by decide +kernel
theorem dX10_count_62 : decode cX10_count 62 = .ok (.aload_n 0, 1) := by decide +kernel
theorem dX10_count_63 : decode cX10_count 63 = .ok (.getfield 9, 3) := by decide +kernel
theorem dX10_count_66 : decode cX10_count 66 = .ok (.iconst 2, 1) := by decide +kernel
theorem dX10_count_67 : decode cX10_count 67 = .ok (.iaload, 1) := by decide +kernel
theorem dX10_count_68 : decode cX10_count 68 = .ok (.ireturn, 1) := by decide +kernel
theorem dX10_count_69 : decode cX10_count 69 = .ok (.aload_n 0, 1) := by decide +kernel
theorem dX10_count_70 : decode cX10_count 70 = .ok (.getfield 9, 3) := by decide +kernel
theorem dX10_count_73 : decode cX10_count 73 = .ok (.iconst 3, 1) := by decide +kernel
theorem dX10_count_74 : decode cX10_count 74 = .ok (.iaload, 1) := by decide +kernel
theorem dX10_count_75 : decode cX10_count 75 = .ok (.ireturn, 1) := by decide +kernel
theorem dX10_count_76 : decode cX10_count 76 = .ok (.aload_n 0, 1) := by decide +kernel
theorem dX10_count_77 : decode cX10_count 77 = .ok (.getfield 9, 3) := by decide +kernel
theorem dX10_count_80 : decode cX10_count 80 = .ok (.iconst 4, 1) := by decide +kernel
theorem dX10_count_81 : decode cX10_count 81 = .ok (.iaload, 1) := by decide +kernel
theorem dX10_count_82 : decode cX10_count 82 = .ok (.ireturn, 1) := by decide +kernel
theorem dX10_count_83 : decode cX10_count 83 = .ok (.aload_n 0, 1) := by decide +kernel
theorem dX10_count_84 : decode cX10_count 84 = .ok (.getfield 97, 3) := by decide +kernel
theorem dX10_count_87 : decode cX10_count 87 = .ok (.ireturn, 1) := by decide +kernel
theorem dX10_count_88 : decode cX10_count 88 = .ok (.iconst 0, 1) := by decide +kernel
theorem dX10_count_89 : decode cX10_count 89 = .ok (.istore_n 3, 1) := by decide +kernel
theorem dX10_count_90 : decode cX10_count 90 = .ok (.iload_n 3, 1) := by decide +kernel
theorem dX10_count_91 : decode cX10_count 91 = .ok (.aload_n 0, 1) := by decide +kernel
theorem dX10_count_92 : decode cX10_count 92 = .ok (.getfield 9, 3) := by decide +kernel
theorem dX10_count_95 : decode cX10_count 95 = .ok (.iconst 2, 1) := by decide +kernel
theorem dX10_count_96 : decode cX10_count 96 = .ok (.iaload, 1) := by decide +kernel
theorem dX10_count_97 : decode cX10_count 97 = .ok (.if_icmp .ge 26, 3) := by decide +kernel
theorem dX10_count_100 : decode cX10_count 100 = .ok (.iload_n 2, 1) := by decide +kernel
theorem dX10_count_101 : decode cX10_count 101 = .ok (.aload_n 0, 1) := by decide +kernel
theorem dX10_count_102 : decode cX10_count 102 = .ok (.getfield 20, 3) := by decide +kernel
theorem dX10_count_105 : decode cX10_count 105 = .ok (.iload_n 3, 1) := by decide +kernel
theorem dX10_count_106 : decode cX10_count 106 = .ok (.iaload, 1) := by decide +kernel
theorem dX10_count_107 : decode cX10_count 107 = .ok (.ifCond .ne 7, 3) := by decide +kernel
theorem dX10_count_110 : decode cX10_count 110 = .ok (.iconst 0, 1) := by decide +kernel
theorem dX10_count_111 : decode cX10_count 111 = .ok (.goto 4, 3) := by decide +kernel
theorem dX10_count_114 : decode cX10_count 114 = .ok (.iconst 1, 1) := by decide +kernel
theorem dX10_count_115 : decode cX10_count 115 = .ok (.iadd, 1) := by decide +kernel
theorem dX10_count_116 : decode cX10_count 116 = .ok (.istore_n 2, 1) := by decide +kernel
theorem dX10_count_117 : decode cX10_count 117 = .ok (.iinc 3 1, 3) := by decide +kernel
theorem dX10_count_120 : decode cX10_count 120 = .ok (.goto (-30), 3) := by decide +kernel
theorem dX10_count_123 : decode cX10_count 123 = .ok (.iload_n 2, 1) := by decide +kernel
theorem dX10_count_124 : decode cX10_count 124 = .ok (.ireturn, 1) := by decide +kernel
theorem dX10_count_125 : decode cX10_count 125 = .ok (.iconst 0, 1) := by decide +kernel
theorem dX10_count_126 : decode cX10_count 126 = .ok (.istore_n 3, 1) := by decide +kernel
theorem dX10_count_127 : decode cX10_count 127 = .ok (.iload_n 3, 1) := by decide +kernel
theorem dX10_count_128 : decode cX10_count 128 = .ok (.iconst 4, 1) := by decide +kernel
theorem dX10_count_129 : decode cX10_count 129 = .ok (.if_icmp .ge 27, 3) := by decide +kernel
theorem dX10_count_132 : decode cX10_count 132 = .ok (.iload_n 2, 1) := by decide +kernel
theorem dX10_count_133 : decode cX10_count 133 = .ok (.aload_n 0, 1) := by decide +kernel
theorem dX10_count_134 : decode cX10_count 134 = .ok (.getfield 65, 3) := by decide +kernel
theorem dX10_count_137 : decode cX10_count 137 = .ok (.iload_n 3, 1) := by decide +kernel
theorem dX10_count_138 : decode cX10_count 138 = .ok (.iaload, 1) := by decide +kernel
theorem dX10_count_139 : decode cX10_count 139 = .ok (.iconst (-1), 1) := by decide +kernel
theorem dX10_count_140 : decode cX10_count 140 = .ok (.if_icmp .ne 7, 3) := by decide +kernel
theorem dX10_count_143 : decode cX10_count 143 = .ok (.iconst 0, 1) := by decide +kernel
theorem dX10_count_144 : decode cX10_count 144 = .ok (.goto 4, 3) := by decide +kernel
theorem dX10_count_147 : decode cX10_count 147 = .ok (.iconst 1, 1) := by decide +kernel
theorem dX10_count_148 : decode cX10_count 148 = .ok (.iadd, 1) := by decide +kernel
theorem dX10_count_149 : decode cX10_count 149 = .ok (.istore_n 2, 1) := by decide +kernel
theorem dX10_count_150 : decode cX10_count 150 = .ok (.iinc 3 1, 3) := by decide +kernel
theorem dX10_count_153 : decode cX10_count 153 = .ok (.goto (-26), 3) := by decide +kernel
theorem dX10_count_156 : decode cX10_count 156 = .ok (.iload_n 2, 1) := by decide +kernel
theorem dX10_count_157 : decode cX10_count 157 = .ok (.ireturn, 1) := by decide +kernel
theorem dX10_count_158 : decode cX10_count 158 = .ok (.iconst (-1), 1) := by decide +kernel
theorem dX10_count_159 : decode cX10_count 159 = .ok (.ireturn, 1) := by decide +kernel
theorem hd_yX10_count : yX10_count.cls = RX10 ∧ yX10_count.cls ≠ "java/lang/invoke/MethodHandle" ∧ yX10_count.cls ≠ "java/lang/invoke/VarHandle" ∧ (parseMethodDescriptor yX10_count.desc).map (fun d => d.parameters.length) = some 1 := by decide +kernel
def uX10_count : List Cond := List.cons (.code yX10_count cX10_count 4 (some .int)) (HAppend.hAppend ([.fieldLink RX10 9 "LuckyTicketModel" "world" "[I", .fieldLink RX10 97 "LuckyTicketModel" "taped" "I", .fieldLink RX10 20 "LuckyTicketModel" "luck" "[I", .fieldLink RX10 65 "LuckyTicketModel" "many" "[I"] : List Cond) wsX100)
theorem iX10_count_X10 : ∀ w ∈ wsX100, w ∈ uX10_count := fun _ h => (List.mem_cons_of_mem _ (List.mem_append_right _ h))
theorem guX10_count : GU uX10_count := gu_cons (gu_app (by decide +kernel) gws_X10)
set_option maxHeartbeats 4000000 in
set_option maxRecDepth 100000 in
theorem kX10_count (l : Launch) (dC : Nat → ClassId) (dI : Nat → Nat → Nat) (o0 : Nat) (x_th : Int32) (mwo : Nat) (mim : Nat) (mhi : Nat) (mlu : Nat) (mtp : Nat) (x_td : Int32) (mfv : Nat) (x_sz : Int32) (x_at : Int32) (x_fr : Int32) (x_to : Int32) (x_va : Int32) (x_fk : Int32) (x_fp : Int32) (mfr : Nat) (mwt : Nat) (x_wt : Int32) (x_op : Int32) (x_jo : Int32) (mfg : Nat) (mpl : Nat) (x_dr : Int64) (mtm : Nat) (mfa : Nat) (mqu : Nat) (mmo : Nat) (mwy : Nat) (mwn : Nat) (mma : Nat) (mwi : Nat) (mnu : Nat) (mmv : Nat) (c_wo : ClassId) (c_lu : ClassId) (c_ma : ClassId) (w_wo : Nat → Int32) (w_lu : Nat → Int32) (w_ma : Nat → Int32) (ln : Int32) (bs : Int32) (tk : Int32) (lw : Int32) (li : Int32) (a1 : Int32) (b_ln : (0 : Int) ≤ ln.toInt ∧ ln.toInt ≤ 12) (b_bs : (0 : Int) ≤ bs.toInt ∧ bs.toInt ≤ 16) (b_tk : (0 : Int) ≤ tk.toInt ∧ tk.toInt ≤ 20000) (b_lw : (0 : Int) ≤ lw.toInt ∧ lw.toInt ≤ 9) (ha_mma : rg w_ma 4 (-1) 60) (hw0 : w_wo 0 = ln) (hw1 : w_wo 1 = bs) (hw2 : w_wo 2 = tk) (hw3 : w_wo 3 = lw) (hw4 : w_wo 4 = li) (hwz : (ln.toInt = 0 ∧ bs.toInt = 0 ∧ tk.toInt = 0 ∧ lw.toInt = 0) ∨ (1 ≤ ln.toInt ∧ 2 ≤ bs.toInt ∧ 1 ≤ tk.toInt)) : Met l yX10_count uX10_count ({ frames := 0, cells := 0, slots := 0, locals := 0 }) (va_Pc [.ref o0, .int a1] (pw (dC, dI) vwCl [(o0, .inr (8, [.int x_th, .ref mwo, .ref mim, .ref mhi, .ref mlu, .ref mtp, .int x_td, .ref mfv, .int x_sz, .int x_at, .int x_fr, .int x_to, .int x_va, .int x_fk, .int x_fp, .ref mfr, .ref mwt, .int x_wt, .int x_op, .int x_jo, .ref mfg, .ref mpl, .long x_dr, .ref mtm, .ref mfa, .ref mqu, .ref mmo, .ref mwy, .ref mwn, .ref mma, .ref mwi, .ref mnu, .ref mmv])), (mwo, .inl (c_wo, 1875, .inl w_wo)), (mlu, .inl (c_lu, 20000, .inl w_lu)), (mma, .inl (c_ma, 4, .inl w_ma))] [(c_wo, .int), (c_lu, .int), (c_ma, .int)])) (vp_Si (fun r => True)) 0 0 (fun _ => False) := by
  refine Met.ofW (cc := cX10_count) (maxL := 4) (ret := (some .int)) pn_X10 rfl ?_
  intro p e s m args below meth c s₁ B hml hv
  obtain ⟨rfl, hP, hK, hN⟩ := hv
  have hx := B.exec
  have hb := B.bytes
  have hr := B.returns
  have hts := atoms_spec (ws := uX10_count) B.pre
  have hown : s.vm.findClass RX10 = some m.cls := hown_of B.named rfl
  have hlocks := B.notSynchronized
  have hl := lv_entry ([.ref o0, .int a1]) (n := 4) (Nat.le_of_ble_eq_true rfl)
  rw [lg_entry_eq]
  generalize (lg_sl ([.ref o0, .int a1]) ++ List.replicate (4 - (lg_sl ([.ref o0, .int a1])).length) Slot.unset).toArray = ls at hl ⊢
  have hl : lv_has ls 4 [(0, .ref o0), (1, .int a1)] := hl
  refine lv_iconst (v := 0) hx hb dX10_count_0 (by decide) ?_
  refine lv_istore_n (lv' := [(2, .int 0), (0, .ref o0), (1, .int a1)]) hx hb dX10_count_1 rfl hl (by decide) rfl (fun ls hl => ?_)
  refine lv_iload_n hx hb dX10_count_2 rfl (lv_at hl 2 rfl) ?_
  rcases (show (a1.toInt < 0 ∨ 7 < a1.toInt) ∨ a1.toInt = 0 ∨ a1.toInt = 1 ∨ a1.toInt = 2 ∨ a1.toInt = 3 ∨ a1.toInt = 4 ∨ a1.toInt = 5 ∨ a1.toInt = 6 ∨ a1.toInt = 7 by omega) with c_238 | c_238 | c_238 | c_238 | c_238 | c_238 | c_238 | c_238 | c_238
  ·
    refine lv_tableOut (tgt := 158) hx hb dX10_count_3 c_238 (by decide) ?_
    refine lv_iconst (v := (-1)) hx hb dX10_count_158 (by decide) ?_
    exact W.iret (v := (-1)) hx hb hr (fun t ht hW => ⟨(-1), rfl, trivial, ht⟩) t_nil dX10_count_159
  ·
    refine lv_tableIn (off := 45) (tgt := 48) hx hb dX10_count_3 (by omega) (by omega) (by rw [c_238]; rfl) (by decide) ?_
    have b_a1 : (0 : Int) ≤ a1.toInt ∧ a1.toInt ≤ 0 := ⟨by omega, by omega⟩
    refine lv_aload_n hx hb dX10_count_48 rfl (lv_at hl 1 rfl) ?_
    refine va_get (D := (dC, dI)) (ci := 8) (v := .ref mwo) (C := RX10) (T := TX10) (N := 33) hx hb hts iX10_count_X10 hown hK hP 0 rfl rfl 1 (by decide) (hts (.fieldLink RX10 9 "LuckyTicketModel" "world" "[I") (List.mem_of_getElem? (i := 1) rfl)) (fun _ h9 => h9) rfl dX10_count_49 ?_
    refine lv_iconst (v := 0) hx hb dX10_count_52 (by decide) ?_
    refine va_iald hx hb hK hP 1 0 rfl rfl (vp_in_b (by decide : (0 : Int) ≤ (0 : Int32).toInt ∧ (0 : Int32).toInt ≤ 0) (by decide) (by decide)) dX10_count_53 ?_
    refine lv_topi (fun z_239 e_z_239 => ?_)
    obtain rfl : ln = z_239 := (e_z_239.trans hw0).symm
    exact W.iret (v := ln) hx hb hr (fun t ht hW => ⟨ln, rfl, trivial, ht⟩) t_nil dX10_count_54
  ·
    refine lv_tableIn (off := 52) (tgt := 55) hx hb dX10_count_3 (by omega) (by omega) (by rw [c_238]; rfl) (by decide) ?_
    have b_a1 : (1 : Int) ≤ a1.toInt ∧ a1.toInt ≤ 1 := ⟨by omega, by omega⟩
    refine lv_aload_n hx hb dX10_count_55 rfl (lv_at hl 1 rfl) ?_
    refine va_get (D := (dC, dI)) (ci := 8) (v := .ref mwo) (C := RX10) (T := TX10) (N := 33) hx hb hts iX10_count_X10 hown hK hP 0 rfl rfl 1 (by decide) (hts (.fieldLink RX10 9 "LuckyTicketModel" "world" "[I") (List.mem_of_getElem? (i := 1) rfl)) (fun _ h9 => h9) rfl dX10_count_56 ?_
    refine lv_iconst (v := 1) hx hb dX10_count_59 (by decide) ?_
    refine va_iald hx hb hK hP 1 0 rfl rfl (vp_in_b (by decide : (1 : Int) ≤ (1 : Int32).toInt ∧ (1 : Int32).toInt ≤ 1) (by decide) (by decide)) dX10_count_60 ?_
    refine lv_topi (fun z_240 e_z_240 => ?_)
    obtain rfl : bs = z_240 := (e_z_240.trans hw1).symm
    exact W.iret (v := bs) hx hb hr (fun t ht hW => ⟨bs, rfl, trivial, ht⟩) t_nil dX10_count_61
  ·
    refine lv_tableIn (off := 59) (tgt := 62) hx hb dX10_count_3 (by omega) (by omega) (by rw [c_238]; rfl) (by decide) ?_
    have b_a1 : (2 : Int) ≤ a1.toInt ∧ a1.toInt ≤ 2 := ⟨by omega, by omega⟩
    refine lv_aload_n hx hb dX10_count_62 rfl (lv_at hl 1 rfl) ?_
    refine va_get (D := (dC, dI)) (ci := 8) (v := .ref mwo) (C := RX10) (T := TX10) (N := 33) hx hb hts iX10_count_X10 hown hK hP 0 rfl rfl 1 (by decide) (hts (.fieldLink RX10 9 "LuckyTicketModel" "world" "[I") (List.mem_of_getElem? (i := 1) rfl)) (fun _ h9 => h9) rfl dX10_count_63 ?_
    refine lv_iconst (v := 2) hx hb dX10_count_66 (by decide) ?_
    refine va_iald hx hb hK hP 1 0 rfl rfl (vp_in_b (by decide : (2 : Int) ≤ (2 : Int32).toInt ∧ (2 : Int32).toInt ≤ 2) (by decide) (by decide)) dX10_count_67 ?_
    refine lv_topi (fun z_241 e_z_241 => ?_)
    obtain rfl : tk = z_241 := (e_z_241.trans hw2).symm
    exact W.iret (v := tk) hx hb hr (fun t ht hW => ⟨tk, rfl, trivial, ht⟩) t_nil dX10_count_68
  ·
    refine lv_tableIn (off := 66) (tgt := 69) hx hb dX10_count_3 (by omega) (by omega) (by rw [c_238]; rfl) (by decide) ?_
    have b_a1 : (3 : Int) ≤ a1.toInt ∧ a1.toInt ≤ 3 := ⟨by omega, by omega⟩
    refine lv_aload_n hx hb dX10_count_69 rfl (lv_at hl 1 rfl) ?_
    refine va_get (D := (dC, dI)) (ci := 8) (v := .ref mwo) (C := RX10) (T := TX10) (N := 33) hx hb hts iX10_count_X10 hown hK hP 0 rfl rfl 1 (by decide) (hts (.fieldLink RX10 9 "LuckyTicketModel" "world" "[I") (List.mem_of_getElem? (i := 1) rfl)) (fun _ h9 => h9) rfl dX10_count_70 ?_
    refine lv_iconst (v := 3) hx hb dX10_count_73 (by decide) ?_
    refine va_iald hx hb hK hP 1 0 rfl rfl (vp_in_b (by decide : (3 : Int) ≤ (3 : Int32).toInt ∧ (3 : Int32).toInt ≤ 3) (by decide) (by decide)) dX10_count_74 ?_
    refine lv_topi (fun z_242 e_z_242 => ?_)
    obtain rfl : lw = z_242 := (e_z_242.trans hw3).symm
    exact W.iret (v := lw) hx hb hr (fun t ht hW => ⟨lw, rfl, trivial, ht⟩) t_nil dX10_count_75
  ·
    refine lv_tableIn (off := 73) (tgt := 76) hx hb dX10_count_3 (by omega) (by omega) (by rw [c_238]; rfl) (by decide) ?_
    have b_a1 : (4 : Int) ≤ a1.toInt ∧ a1.toInt ≤ 4 := ⟨by omega, by omega⟩
    refine lv_aload_n hx hb dX10_count_76 rfl (lv_at hl 1 rfl) ?_
    refine va_get (D := (dC, dI)) (ci := 8) (v := .ref mwo) (C := RX10) (T := TX10) (N := 33) hx hb hts iX10_count_X10 hown hK hP 0 rfl rfl 1 (by decide) (hts (.fieldLink RX10 9 "LuckyTicketModel" "world" "[I") (List.mem_of_getElem? (i := 1) rfl)) (fun _ h9 => h9) rfl dX10_count_77 ?_
    refine lv_iconst (v := 4) hx hb dX10_count_80 (by decide) ?_
    refine va_iald hx hb hK hP 1 0 rfl rfl (vp_in_b (by decide : (4 : Int) ≤ (4 : Int32).toInt ∧ (4 : Int32).toInt ≤ 4) (by decide) (by decide)) dX10_count_81 ?_
    refine lv_topi (fun z_243 e_z_243 => ?_)
    obtain rfl : li = z_243 := (e_z_243.trans hw4).symm
    exact W.iret (v := li) hx hb hr (fun t ht hW => ⟨li, rfl, trivial, ht⟩) t_nil dX10_count_82
  ·
    refine lv_tableIn (off := 80) (tgt := 83) hx hb dX10_count_3 (by omega) (by omega) (by rw [c_238]; rfl) (by decide) ?_
    have b_a1 : (5 : Int) ≤ a1.toInt ∧ a1.toInt ≤ 5 := ⟨by omega, by omega⟩
    refine lv_aload_n hx hb dX10_count_83 rfl (lv_at hl 1 rfl) ?_
    refine va_get (D := (dC, dI)) (ci := 8) (v := .int x_td) (C := RX10) (T := TX10) (N := 33) hx hb hts iX10_count_X10 hown hK hP 0 rfl rfl 6 (by decide) (hts (.fieldLink RX10 97 "LuckyTicketModel" "taped" "I") (List.mem_of_getElem? (i := 2) rfl)) (fun _ h9 => h9) rfl dX10_count_84 ?_
    exact W.iret (v := x_td) hx hb hr (fun t ht hW => ⟨x_td, rfl, trivial, ht⟩) t_nil dX10_count_87
  ·
    refine lv_tableIn (off := 85) (tgt := 88) hx hb dX10_count_3 (by omega) (by omega) (by rw [c_238]; rfl) (by decide) ?_
    have b_a1 : (6 : Int) ≤ a1.toInt ∧ a1.toInt ≤ 6 := ⟨by omega, by omega⟩
    refine lv_iconst (v := 0) hx hb dX10_count_88 (by decide) ?_
    refine lv_istore_n (lv' := [(3, .int 0), (2, .int 0), (0, .ref o0), (1, .int a1)]) hx hb dX10_count_89 rfl hl (by decide) rfl (fun ls hl => ?_)
    refine loopP (σ := Int32 × Int32) (fun v => (20000 - v.1.toInt).toNat) (fun v ls => ((0 : Int) ≤ v.1.toInt ∧ v.1.toInt ≤ 20000) ∧ lv_has ls 4 [(3, .int v.1), (2, .int v.2), (0, .ref o0), (1, .int a1)]) (fun v ls hI ih_90_357 => ?_) ((0 : Int32), (0 : Int32)) ⟨(show (0 : Int) ≤ (0 : Int32).toInt ∧ (0 : Int32).toInt ≤ 20000 from (rg_w (by decide : (0 : Int) ≤ (0 : Int32).toInt ∧ (0 : Int32).toInt ≤ 0) (by decide) (by decide))), lv_sub hl [0, 1, 2, 3] rfl⟩
    obtain ⟨y_251, y_252⟩ := v
    obtain ⟨b_y_251, hl⟩ := hI
    have b_y_251 : (0 : Int) ≤ y_251.toInt ∧ y_251.toInt ≤ 20000 := b_y_251
    have hl : lv_has ls 4 [(3, .int y_251), (2, .int y_252), (0, .ref o0), (1, .int a1)] := hl
    refine lv_iload_n hx hb dX10_count_90 rfl (lv_at hl 0 rfl) ?_
    refine lv_aload_n hx hb dX10_count_91 rfl (lv_at hl 2 rfl) ?_
    refine va_get (D := (dC, dI)) (ci := 8) (v := .ref mwo) (C := RX10) (T := TX10) (N := 33) hx hb hts iX10_count_X10 hown hK hP 0 rfl rfl 1 (by decide) (hts (.fieldLink RX10 9 "LuckyTicketModel" "world" "[I") (List.mem_of_getElem? (i := 1) rfl)) (fun _ h9 => h9) rfl dX10_count_92 ?_
    refine lv_iconst (v := 2) hx hb dX10_count_95 (by decide) ?_
    refine va_iald hx hb hK hP 1 0 rfl rfl (vp_in_b (by decide : (2 : Int) ≤ (2 : Int32).toInt ∧ (2 : Int32).toInt ≤ 2) (by decide) (by decide)) dX10_count_96 ?_
    refine lv_topi (fun z_358 e_z_358 => ?_)
    obtain rfl : tk = z_358 := (e_z_358.trans hw2).symm
    refine lv_icmp_ge (tgt := 123) hx hb dX10_count_97 (by decide) (fun c_359 => ?_) (fun c_359 => ?_)
    ·
      have n_c_359 : (tk.toInt : Int) ≤ y_251.toInt := c_ge rfl rfl c_359
      refine lv_iload_n hx hb dX10_count_123 rfl (lv_at hl 1 rfl) ?_
      exact W.iret (v := y_252) hx hb hr (fun t ht hW => ⟨y_252, rfl, trivial, ht⟩) t_nil dX10_count_124
    ·
      have n_c_359 : (y_251.toInt : Int) < tk.toInt := c_nge rfl rfl c_359
      have b_y_251 : (0 : Int) ≤ y_251.toInt ∧ y_251.toInt ≤ 19999 := r_lt1 b_y_251 b_tk n_c_359 (by decide)
      have b_tk : (1 : Int) ≤ tk.toInt ∧ tk.toInt ≤ 20000 := r_lt2 b_y_251 b_tk n_c_359 (by decide)
      refine lv_iload_n hx hb dX10_count_100 rfl (lv_at hl 1 rfl) ?_
      refine lv_aload_n hx hb dX10_count_101 rfl (lv_at hl 2 rfl) ?_
      refine va_get (D := (dC, dI)) (ci := 8) (v := .ref mlu) (C := RX10) (T := TX10) (N := 33) hx hb hts iX10_count_X10 hown hK hP 0 rfl rfl 4 (by decide) (hts (.fieldLink RX10 20 "LuckyTicketModel" "luck" "[I") (List.mem_of_getElem? (i := 3) rfl)) (fun _ h9 => h9) rfl dX10_count_102 ?_
      refine lv_iload_n hx hb dX10_count_105 rfl (lv_at hl 0 rfl) ?_
      refine va_iald hx hb hK hP 2 1 rfl rfl (vp_in_b b_y_251 (by decide) (by decide)) dX10_count_106 ?_
      refine lv_topi (fun z_360 e_z_360 => ?_)
      refine cutP (σ := Int32) (pc2 := 115) (st2 := fun v => [.int v, .int y_252]) (cells2 := 0) (slots2 := 0) (fun v ls => ((0 : Int) ≤ v.toInt ∧ v.toInt ≤ 1) ∧ lv_has ls 4 [(3, .int y_251), (2, .int y_252), (0, .ref o0), (1, .int a1)]) (fun v ls hI => ?_) (fun hj_115_362 => ?_)
      ·
        obtain ⟨y_362, rfl⟩ : ∃ z, z = v := ⟨_, rfl⟩
        obtain ⟨b_y_362, hl⟩ := hI
        have b_y_362 : (0 : Int) ≤ y_362.toInt ∧ y_362.toInt ≤ 1 := b_y_362
        have hl : lv_has ls 4 [(3, .int y_251), (2, .int y_252), (0, .ref o0), (1, .int a1)] := hl
        refine lv_iadd hx hb dX10_count_115 ?_
        refine lv_topi (fun z_363 e_z_363 => ?_)
        refine lv_istore_n (lv' := [(2, .int z_363), (3, .int y_251), (0, .ref o0), (1, .int a1)]) hx hb dX10_count_116 rfl hl (by decide) rfl (fun ls hl => ?_)
        obtain ⟨z_364, e_z_364⟩ : ∃ y : Int32, y = y_251 + 1 := ⟨_, rfl⟩
        refine lv_iinc (v := z_364) (lv' := [(3, .int z_364), (2, .int z_363), (0, .ref o0), (1, .int a1)]) hx hb dX10_count_117 hl (k := 1) rfl (by rw [e_z_364]; rfl) (by decide) rfl (fun ls hl => ?_)
        obtain ⟨q_z_364, b_z_364⟩ := ti_add (lo := 1) (hi := 20000) e_z_364 rfl (by decide : (1 : Int32).toInt = 1) b_y_251 (by decide : (1 : Int) ≤ (1 : Int32).toInt ∧ (1 : Int32).toInt ≤ 1) (by decide)
        refine lv_goto (tgt := 90) hx hb dX10_count_120 (by decide) ?_
        exact ih_90_357 (z_364, z_363) _ ⟨(show (0 : Int) ≤ z_364.toInt ∧ z_364.toInt ≤ 20000 from (rg_w b_z_364 (by decide) (by decide))), lv_sub hl [0, 1, 2, 3] rfl⟩ (show (20000 - z_364.toInt).toNat < (20000 - y_251.toInt).toNat by omega)
      ·
        refine lv_if_ne (tgt := 114) hx hb dX10_count_107 (by decide) (fun c_361 => ?_) (fun c_361 => ?_)
        ·
          have n_c_361 : (z_360.toInt : Int) ≠ 0 := c_ne rfl (by decide) c_361
          refine lv_iconst (v := 1) hx hb dX10_count_114 (by decide) ?_
          exact hj_115_362 (1 : Int32) _ ⟨(show (0 : Int) ≤ (1 : Int32).toInt ∧ (1 : Int32).toInt ≤ 1 from (rg_w (by decide : (1 : Int) ≤ (1 : Int32).toInt ∧ (1 : Int32).toInt ≤ 1) (by decide) (by decide))), lv_sub hl [0, 1, 2, 3] rfl⟩
        ·
          have n_c_361 : (z_360.toInt : Int) = 0 := c_eq rfl (by decide) c_361
          have b_z_360 : (0 : Int) ≤ z_360.toInt ∧ z_360.toInt ≤ 0 := r_eq1 (ti_rng z_360) (by decide : (0 : Int) ≤ (0 : Int32).toInt ∧ (0 : Int32).toInt ≤ 0) n_c_361 (by decide)
          refine lv_iconst (v := 0) hx hb dX10_count_110 (by decide) ?_
          refine lv_goto (tgt := 115) hx hb dX10_count_111 (by decide) ?_
          exact hj_115_362 (0 : Int32) _ ⟨(show (0 : Int) ≤ (0 : Int32).toInt ∧ (0 : Int32).toInt ≤ 1 from (rg_w (by decide : (0 : Int) ≤ (0 : Int32).toInt ∧ (0 : Int32).toInt ≤ 0) (by decide) (by decide))), lv_sub hl [0, 1, 2, 3] rfl⟩
  ·
    refine lv_tableIn (off := 122) (tgt := 125) hx hb dX10_count_3 (by omega) (by omega) (by rw [c_238]; rfl) (by decide) ?_
    have b_a1 : (7 : Int) ≤ a1.toInt ∧ a1.toInt ≤ 7 := ⟨by omega, by omega⟩
    refine lv_iconst (v := 0) hx hb dX10_count_125 (by decide) ?_
    refine lv_istore_n (lv' := [(3, .int 0), (2, .int 0), (0, .ref o0), (1, .int a1)]) hx hb dX10_count_126 rfl hl (by decide) rfl (fun ls hl => ?_)
    refine loopP (σ := Int32 × Int32) (fun v => (4 - v.1.toInt).toNat) (fun v ls => ((0 : Int) ≤ v.1.toInt ∧ v.1.toInt ≤ 4) ∧ lv_has ls 4 [(3, .int v.1), (2, .int v.2), (0, .ref o0), (1, .int a1)]) (fun v ls hI ih_127_468 => ?_) ((0 : Int32), (0 : Int32)) ⟨(show (0 : Int) ≤ (0 : Int32).toInt ∧ (0 : Int32).toInt ≤ 4 from (rg_w (by decide : (0 : Int) ≤ (0 : Int32).toInt ∧ (0 : Int32).toInt ≤ 0) (by decide) (by decide))), lv_sub hl [0, 1, 2, 3] rfl⟩
    obtain ⟨y_371, y_372⟩ := v
    obtain ⟨b_y_371, hl⟩ := hI
    have b_y_371 : (0 : Int) ≤ y_371.toInt ∧ y_371.toInt ≤ 4 := b_y_371
    have hl : lv_has ls 4 [(3, .int y_371), (2, .int y_372), (0, .ref o0), (1, .int a1)] := hl
    refine lv_iload_n hx hb dX10_count_127 rfl (lv_at hl 0 rfl) ?_
    refine lv_iconst (v := 4) hx hb dX10_count_128 (by decide) ?_
    refine lv_icmp_ge (tgt := 156) hx hb dX10_count_129 (by decide) (fun c_469 => ?_) (fun c_469 => ?_)
    ·
      have n_c_469 : (4 : Int) ≤ y_371.toInt := c_ge rfl (by decide) c_469
      have b_y_371 : (4 : Int) ≤ y_371.toInt ∧ y_371.toInt ≤ 4 := r_le2 (by decide : (4 : Int) ≤ (4 : Int32).toInt ∧ (4 : Int32).toInt ≤ 4) b_y_371 n_c_469 (by decide)
      refine lv_iload_n hx hb dX10_count_156 rfl (lv_at hl 1 rfl) ?_
      exact W.iret (v := y_372) hx hb hr (fun t ht hW => ⟨y_372, rfl, trivial, ht⟩) t_nil dX10_count_157
    ·
      have n_c_469 : (y_371.toInt : Int) < 4 := c_nge rfl (by decide) c_469
      have b_y_371 : (0 : Int) ≤ y_371.toInt ∧ y_371.toInt ≤ 3 := r_lt1 b_y_371 (by decide : (4 : Int) ≤ (4 : Int32).toInt ∧ (4 : Int32).toInt ≤ 4) n_c_469 (by decide)
      refine lv_iload_n hx hb dX10_count_132 rfl (lv_at hl 1 rfl) ?_
      refine lv_aload_n hx hb dX10_count_133 rfl (lv_at hl 2 rfl) ?_
      refine va_get (D := (dC, dI)) (ci := 8) (v := .ref mma) (C := RX10) (T := TX10) (N := 33) hx hb hts iX10_count_X10 hown hK hP 0 rfl rfl 29 (by decide) (hts (.fieldLink RX10 65 "LuckyTicketModel" "many" "[I") (List.mem_of_getElem? (i := 4) rfl)) (fun _ h9 => h9) rfl dX10_count_134 ?_
      refine lv_iload_n hx hb dX10_count_137 rfl (lv_at hl 0 rfl) ?_
      refine va_iald hx hb hK hP 3 2 rfl rfl (vp_in_b b_y_371 (by decide) (by decide)) dX10_count_138 ?_
      refine lv_topi (fun z_470 e_z_470 => ?_)
      have b_z_470 : (-1 : Int) ≤ z_470.toInt ∧ z_470.toInt ≤ 60 := rg_at ha_mma (vp_in_b b_y_371 (by decide) (by decide)) e_z_470
      refine lv_iconst (v := (-1)) hx hb dX10_count_139 (by decide) ?_
      refine cutP (σ := Int32) (pc2 := 148) (st2 := fun v => [.int v, .int y_372]) (cells2 := 0) (slots2 := 0) (fun v ls => ((0 : Int) ≤ v.toInt ∧ v.toInt ≤ 1) ∧ lv_has ls 4 [(3, .int y_371), (2, .int y_372), (0, .ref o0), (1, .int a1)]) (fun v ls hI => ?_) (fun hj_148_472 => ?_)
      ·
        obtain ⟨y_472, rfl⟩ : ∃ z, z = v := ⟨_, rfl⟩
        obtain ⟨b_y_472, hl⟩ := hI
        have b_y_472 : (0 : Int) ≤ y_472.toInt ∧ y_472.toInt ≤ 1 := b_y_472
        have hl : lv_has ls 4 [(3, .int y_371), (2, .int y_372), (0, .ref o0), (1, .int a1)] := hl
        refine lv_iadd hx hb dX10_count_148 ?_
        refine lv_topi (fun z_473 e_z_473 => ?_)
        refine lv_istore_n (lv' := [(2, .int z_473), (3, .int y_371), (0, .ref o0), (1, .int a1)]) hx hb dX10_count_149 rfl hl (by decide) rfl (fun ls hl => ?_)
        obtain ⟨z_474, e_z_474⟩ : ∃ y : Int32, y = y_371 + 1 := ⟨_, rfl⟩
        refine lv_iinc (v := z_474) (lv' := [(3, .int z_474), (2, .int z_473), (0, .ref o0), (1, .int a1)]) hx hb dX10_count_150 hl (k := 1) rfl (by rw [e_z_474]; rfl) (by decide) rfl (fun ls hl => ?_)
        obtain ⟨q_z_474, b_z_474⟩ := ti_add (lo := 1) (hi := 4) e_z_474 rfl (by decide : (1 : Int32).toInt = 1) b_y_371 (by decide : (1 : Int) ≤ (1 : Int32).toInt ∧ (1 : Int32).toInt ≤ 1) (by decide)
        refine lv_goto (tgt := 127) hx hb dX10_count_153 (by decide) ?_
        exact ih_127_468 (z_474, z_473) _ ⟨(show (0 : Int) ≤ z_474.toInt ∧ z_474.toInt ≤ 4 from (rg_w b_z_474 (by decide) (by decide))), lv_sub hl [0, 1, 2, 3] rfl⟩ (show (4 - z_474.toInt).toNat < (4 - y_371.toInt).toNat by omega)
      ·
        refine lv_icmp_ne (tgt := 147) hx hb dX10_count_140 (by decide) (fun c_471 => ?_) (fun c_471 => ?_)
        ·
          have n_c_471 : (z_470.toInt : Int) ≠ (-1) := c_ne rfl (by decide) c_471
          have b_z_470 : (0 : Int) ≤ z_470.toInt ∧ z_470.toInt ≤ 60 := r_ne1 b_z_470 (by decide : (-1 : Int) ≤ ((-1) : Int32).toInt ∧ ((-1) : Int32).toInt ≤ -1) n_c_471 (by decide)
          refine lv_iconst (v := 1) hx hb dX10_count_147 (by decide) ?_
          exact hj_148_472 (1 : Int32) _ ⟨(show (0 : Int) ≤ (1 : Int32).toInt ∧ (1 : Int32).toInt ≤ 1 from (rg_w (by decide : (1 : Int) ≤ (1 : Int32).toInt ∧ (1 : Int32).toInt ≤ 1) (by decide) (by decide))), lv_sub hl [0, 1, 2, 3] rfl⟩
        ·
          have n_c_471 : (z_470.toInt : Int) = (-1) := c_eq rfl (by decide) c_471
          have b_z_470 : (-1 : Int) ≤ z_470.toInt ∧ z_470.toInt ≤ -1 := r_eq1 b_z_470 (by decide : (-1 : Int) ≤ ((-1) : Int32).toInt ∧ ((-1) : Int32).toInt ≤ -1) n_c_471 (by decide)
          refine lv_iconst (v := 0) hx hb dX10_count_143 (by decide) ?_
          refine lv_goto (tgt := 148) hx hb dX10_count_144 (by decide) ?_
          exact hj_148_472 (0 : Int32) _ ⟨(show (0 : Int) ≤ (0 : Int32).toInt ∧ (0 : Int32).toInt ≤ 1 from (rg_w (by decide : (0 : Int) ≤ (0 : Int32).toInt ∧ (0 : Int32).toInt ≤ 0) (by decide) (by decide))), lv_sub hl [0, 1, 2, 3] rfl⟩
