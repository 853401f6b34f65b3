def uX10_nowhereF : List Cond := List.cons (.code yX10_nowhere cX10_nowhere 2 none) (HAppend.hAppend ([.fieldLink RX10 9 "LuckyTicketModel" "world" "[I", .fieldLink RX10 49 "LuckyTicketModel" "far" "[I"] : List Cond) wsX100)
theorem iX10_nowhereF_X10 : ∀ w ∈ wsX100, w ∈ uX10_nowhereF := fun _ h => (List.mem_cons_of_mem _ (List.mem_append_right _ h))
theorem guX10_nowhereF : GU uX10_nowhereF := gu_cons (gu_app (by decide +kernel) gws_X10)
set_option maxHeartbeats 4000000 in
set_option maxRecDepth 100000 in
theorem kX10_nowhereF (l : Launch) (dC : Nat → ClassId) (dI : Nat → Nat → Nat) (o0 : Nat) (x_th : Int32) (mwo : Nat) (mim : Nat) (mhi : Nat) (mlu : Nat) (mtp : Nat) (x_td : Int32) (mfv : Nat) (x_sz : Int32) (x_at : Int32) (x_fr : Int32) (x_to : Int32) (x_va : Int32) (x_fk : Int32) (x_fp : Int32) (mfr : Nat) (mwt : Nat) (x_wt : Int32) (x_op : Int32) (x_jo : Int32) (mfg : Nat) (mpl : Nat) (x_dr : Int64) (mtm : Nat) (mfa : Nat) (mqu : Nat) (mmo : Nat) (mwy : Nat) (mwn : Nat) (mma : Nat) (mwi : Nat) (mnu : Nat) (mmv : Nat) (c_wo : ClassId) (c_fa : ClassId) (w_wo : Nat → Int32) (w_fa : Nat → Int32) (ln : Int32) (bs : Int32) (tk : Int32) (lw : Int32) (li : Int32) (sz : Nat) (b_ln : (0 : Int) ≤ ln.toInt ∧ ln.toInt ≤ 12) (b_bs : (0 : Int) ≤ bs.toInt ∧ bs.toInt ≤ 16) (b_tk : (0 : Int) ≤ tk.toInt ∧ tk.toInt ≤ 20000) (b_lw : (0 : Int) ≤ lw.toInt ∧ lw.toInt ≤ 9) (hw0 : w_wo 0 = ln) (hw1 : w_wo 1 = bs) (hw2 : w_wo 2 = tk) (hw3 : w_wo 3 = lw) (hw4 : w_wo 4 = li) (hwz : (ln.toInt = 0 ∧ bs.toInt = 0 ∧ tk.toInt = 0 ∧ lw.toInt = 0) ∨ (1 ≤ ln.toInt ∧ 2 ≤ bs.toInt ∧ 1 ≤ tk.toInt)) : Met l yX10_nowhere uX10_nowhereF ({ frames := 0, cells := 0, slots := 0, locals := 0 }) (va_Pc [.ref o0] (hw (dC, dI) vwCl [(o0, .inr (8, [.int x_th, .ref mwo, .ref mim, .ref mhi, .ref mlu, .ref mtp, .int x_td, .ref mfv, .int x_sz, .int x_at, .int x_fr, .int x_to, .int x_va, .int x_fk, .int x_fp, .ref mfr, .ref mwt, .int x_wt, .int x_op, .int x_jo, .ref mfg, .ref mpl, .long x_dr, .ref mtm, .ref mfa, .ref mqu, .ref mmo, .ref mwy, .ref mwn, .ref mma, .ref mwi, .ref mnu, .ref mmv])), (mwo, .inl (c_wo, 1875, .inl w_wo)), (mfa, .inl (c_fa, 20000, .inl w_fa))] [(c_wo, .int), (c_fa, .int)] sz)) (va_Qv (fun (_ : Unit) => True) (fun (_ : Unit) t => ∃ (o0_ : Nat → Int32), (∀ j : Nat, j < tk.toInt.toNat → o0_ j = -1) ∧ va_P (dC, dI) vwCl [(o0, .inr (8, [.int x_th, .ref mwo, .ref mim, .ref mhi, .ref mlu, .ref mtp, .int x_td, .ref mfv, .int x_sz, .int x_at, .int x_fr, .int x_to, .int x_va, .int x_fk, .int x_fp, .ref mfr, .ref mwt, .int x_wt, .int x_op, .int x_jo, .ref mfg, .ref mpl, .long x_dr, .ref mtm, .ref mfa, .ref mqu, .ref mmo, .ref mwy, .ref mwn, .ref mma, .ref mwi, .ref mnu, .ref mmv])), (mwo, .inl (c_wo, 1875, .inl w_wo)), (mfa, .inl (c_fa, 20000, .inl o0_))] t.heap ∧ va_K (dC, dI) vwCl [(c_wo, .int), (c_fa, .int)] t ∧ va_D (va_A [(o0, .inr (8, [.int x_th, .ref mwo, .ref mim, .ref mhi, .ref mlu, .ref mtp, .int x_td, .ref mfv, .int x_sz, .int x_at, .int x_fr, .int x_to, .int x_va, .int x_fk, .int x_fp, .ref mfr, .ref mwt, .int x_wt, .int x_op, .int x_jo, .ref mfg, .ref mpl, .long x_dr, .ref mtm, .ref mfa, .ref mqu, .ref mmo, .ref mwy, .ref mwn, .ref mma, .ref mwi, .ref mnu, .ref mmv])), (mwo, .inl (c_wo, 1875, .inl w_wo)), (mfa, .inl (c_fa, 20000, .inl w_fa))] sz) [(o0, .inr (8, [.int x_th, .ref mwo, .ref mim, .ref mhi, .ref mlu, .ref mtp, .int x_td, .ref mfv, .int x_sz, .int x_at, .int x_fr, .int x_to, .int x_va, .int x_fk, .int x_fp, .ref mfr, .ref mwt, .int x_wt, .int x_op, .int x_jo, .ref mfg, .ref mpl, .long x_dr, .ref mtm, .ref mfa, .ref mqu, .ref mmo, .ref mwy, .ref mwn, .ref mma, .ref mwi, .ref mnu, .ref mmv])), (mwo, .inl (c_wo, 1875, .inl w_wo)), (mfa, .inl (c_fa, 20000, .inl o0_))]) (va_A [(o0, .inr (8, [.int x_th, .ref mwo, .ref mim, .ref mhi, .ref mlu, .ref mtp, .int x_td, .ref mfv, .int x_sz, .int x_at, .int x_fr, .int x_to, .int x_va, .int x_fk, .int x_fp, .ref mfr, .ref mwt, .int x_wt, .int x_op, .int x_jo, .ref mfg, .ref mpl, .long x_dr, .ref mtm, .ref mfa, .ref mqu, .ref mmo, .ref mwy, .ref mwn, .ref mma, .ref mwi, .ref mnu, .ref mmv])), (mwo, .inl (c_wo, 1875, .inl w_wo)), (mfa, .inl (c_fa, 20000, .inl w_fa))] sz)) 0 0 (va_A [(o0, .inr (8, [.int x_th, .ref mwo, .ref mim, .ref mhi, .ref mlu, .ref mtp, .int x_td, .ref mfv, .int x_sz, .int x_at, .int x_fr, .int x_to, .int x_va, .int x_fk, .int x_fp, .ref mfr, .ref mwt, .int x_wt, .int x_op, .int x_jo, .ref mfg, .ref mpl, .long x_dr, .ref mtm, .ref mfa, .ref mqu, .ref mmo, .ref mwy, .ref mwn, .ref mma, .ref mwi, .ref mnu, .ref mmv])), (mwo, .inl (c_wo, 1875, .inl w_wo)), (mfa, .inl (c_fa, 20000, .inl w_fa))] sz) := by
  refine Met.ofW (cc := cX10_nowhere) (maxL := 2) (ret := none) pn_X10 rfl ?_
  intro p e s m args below meth c s₁ B hml hv
  obtain ⟨rfl, hsz, hP, hK, hD0, hN⟩ := hv
  have hx := B.exec
  have hb := B.bytes
  have hr := B.returns
  have hts := atoms_spec (ws := uX10_nowhereF) B.pre
  have hown : s.vm.findClass RX10 = some m.cls := hown_of B.named rfl
  have hlocks := B.notSynchronized
  subst hsz
  have hD := hD0.self (sz := s.heap.size)
  generalize hAe : va_A [(o0, .inr (8, [.int x_th, .ref mwo, .ref mim, .ref mhi, .ref mlu, .ref mtp, .int x_td, .ref mfv, .int x_sz, .int x_at, .int x_fr, .int x_to, .int x_va, .int x_fk, .int x_fp, .ref mfr, .ref mwt, .int x_wt, .int x_op, .int x_jo, .ref mfg, .ref mpl, .long x_dr, .ref mtm, .ref mfa, .ref mqu, .ref mmo, .ref mwy, .ref mwn, .ref mma, .ref mwi, .ref mnu, .ref mmv])), (mwo, .inl (c_wo, 1875, .inl w_wo)), (mfa, .inl (c_fa, 20000, .inl w_fa))] s.heap.size = A at hD ⊢
  have hA : ∀ q : Nat, s.heap.size ≤ q → A q := fun q h => by rw [← hAe]; exact Or.inr h
  have hS : va_S A s.heap s.heap [] := va_S.rf
  have hP : va_P (dC, dI) vwCl [(o0, .inr (8, [.int x_th, .ref mwo, .ref mim, .ref mhi, .ref mlu, .ref mtp, .int x_td, .ref mfv, .int x_sz, .int x_at, .int x_fr, .int x_to, .int x_va, .int x_fk, .int x_fp, .ref mfr, .ref mwt, .int x_wt, .int x_op, .int x_jo, .ref mfg, .ref mpl, .long x_dr, .ref mtm, .ref mfa, .ref mqu, .ref mmo, .ref mwy, .ref mwn, .ref mma, .ref mwi, .ref mnu, .ref mmv])), (mwo, .inl (c_wo, 1875, .inl w_wo)), (mfa, .inl (c_fa, 20000, .inl w_fa))] s.heap := hP
  have hl := lv_entry ([.ref o0]) (n := 2) (Nat.le_of_ble_eq_true rfl)
  rw [lg_entry_eq]
  generalize (lg_sl ([.ref o0]) ++ List.replicate (2 - (lg_sl ([.ref o0])).length) Slot.unset).toArray = ls at hl ⊢
  have hl : lv_has ls 2 [(0, .ref o0)] := hl
  refine lv_iconst (v := 0) hx hb dX10_nowhere_0 (by decide) ?_
  refine lv_istore_n (lv' := [(1, .int 0), (0, .ref o0)]) hx hb dX10_nowhere_1 rfl hl (by decide) rfl (fun ls hl => ?_)
  refine loopW (σ := Int32 × (Nat → Int32)) (fun v => (20000 - v.1.toInt).toNat) (fun v H locs ls => ((0 : Int) ≤ v.1.toInt ∧ v.1.toInt ≤ 20000) ∧ (∀ j : Nat, j < v.1.toInt.toNat → v.2 j = -1) ∧ va_P (dC, dI) vwCl [(o0, .inr (8, [.int x_th, .ref mwo, .ref mim, .ref mhi, .ref mlu, .ref mtp, .int x_td, .ref mfv, .int x_sz, .int x_at, .int x_fr, .int x_to, .int x_va, .int x_fk, .int x_fp, .ref mfr, .ref mwt, .int x_wt, .int x_op, .int x_jo, .ref mfg, .ref mpl, .long x_dr, .ref mtm, .ref mfa, .ref mqu, .ref mmo, .ref mwy, .ref mwn, .ref mma, .ref mwi, .ref mnu, .ref mmv])), (mwo, .inl (c_wo, 1875, .inl w_wo)), (mfa, .inl (c_fa, 20000, .inl v.2))] H ∧ va_D A [(o0, .inr (8, [.int x_th, .ref mwo, .ref mim, .ref mhi, .ref mlu, .ref mtp, .int x_td, .ref mfv, .int x_sz, .int x_at, .int x_fr, .int x_to, .int x_va, .int x_fk, .int x_fp, .ref mfr, .ref mwt, .int x_wt, .int x_op, .int x_jo, .ref mfg, .ref mpl, .long x_dr, .ref mtm, .ref mfa, .ref mqu, .ref mmo, .ref mwy, .ref mwn, .ref mma, .ref mwi, .ref mnu, .ref mmv])), (mwo, .inl (c_wo, 1875, .inl w_wo)), (mfa, .inl (c_fa, 20000, .inl v.2))] ∧ va_S A s.heap H locs ∧ lv_has ls 2 [(1, .int v.1), (0, .ref o0)]) (fun v H locs ls hI ih_2_104 => ?_) ((0 : Int32), w_fa) ⟨(show (0 : Int) ≤ (0 : Int32).toInt ∧ (0 : Int32).toInt ≤ 20000 from (rg_w (by decide : (0 : Int) ≤ (0 : Int32).toInt ∧ (0 : Int32).toInt ≤ 0) (by decide) (by decide))), (show ∀ j : Nat, j < (0 : Int32).toInt.toNat → w_fa j = -1 from (nil_lt)), hP, hD, hS, lv_sub hl [0, 1] rfl⟩
  obtain ⟨y_59, f_60⟩ := v
  obtain ⟨b_y_59, hnw, hP, hD, hS, hl⟩ := hI
  have b_y_59 : (0 : Int) ≤ y_59.toInt ∧ y_59.toInt ≤ 20000 := b_y_59
  have hnw : ∀ j : Nat, j < y_59.toInt.toNat → f_60 j = -1 := hnw
  have hP : va_P (dC, dI) vwCl [(o0, .inr (8, [.int x_th, .ref mwo, .ref mim, .ref mhi, .ref mlu, .ref mtp, .int x_td, .ref mfv, .int x_sz, .int x_at, .int x_fr, .int x_to, .int x_va, .int x_fk, .int x_fp, .ref mfr, .ref mwt, .int x_wt, .int x_op, .int x_jo, .ref mfg, .ref mpl, .long x_dr, .ref mtm, .ref mfa, .ref mqu, .ref mmo, .ref mwy, .ref mwn, .ref mma, .ref mwi, .ref mnu, .ref mmv])), (mwo, .inl (c_wo, 1875, .inl w_wo)), (mfa, .inl (c_fa, 20000, .inl f_60))] H := hP
  have hD : va_D A [(o0, .inr (8, [.int x_th, .ref mwo, .ref mim, .ref mhi, .ref mlu, .ref mtp, .int x_td, .ref mfv, .int x_sz, .int x_at, .int x_fr, .int x_to, .int x_va, .int x_fk, .int x_fp, .ref mfr, .ref mwt, .int x_wt, .int x_op, .int x_jo, .ref mfg, .ref mpl, .long x_dr, .ref mtm, .ref mfa, .ref mqu, .ref mmo, .ref mwy, .ref mwn, .ref mma, .ref mwi, .ref mnu, .ref mmv])), (mwo, .inl (c_wo, 1875, .inl w_wo)), (mfa, .inl (c_fa, 20000, .inl f_60))] := hD
  have hl : lv_has ls 2 [(1, .int y_59), (0, .ref o0)] := hl
  refine lv_iload_n hx hb dX10_nowhere_2 rfl (lv_at hl 0 rfl) ?_
  refine lv_aload_n hx hb dX10_nowhere_3 rfl (lv_at hl 1 rfl) ?_
  refine va_get (D := (dC, dI)) (ci := 8) (v := .ref mwo) (C := RX10) (T := TX10) (N := 33) hx hb hts iX10_nowhereF_X10 hown hK hP 0 rfl rfl 1 (by decide) (hts (.fieldLink RX10 9 "LuckyTicketModel" "world" "[I") (List.mem_of_getElem? (i := 1) rfl)) (fun _ h9 => h9) rfl dX10_nowhere_4 ?_
  refine lv_iconst (v := 2) hx hb dX10_nowhere_7 (by decide) ?_
  refine va_iald hx hb hK hP 1 0 rfl rfl (vp_in_b (by decide : (2 : Int) ≤ (2 : Int32).toInt ∧ (2 : Int32).toInt ≤ 2) (by decide) (by decide)) dX10_nowhere_8 ?_
  refine lv_topi (fun z_105 e_z_105 => ?_)
  obtain rfl : tk = z_105 := (e_z_105.trans hw2).symm
  refine lv_icmp_ge (tgt := 25) hx hb dX10_nowhere_9 (by decide) (fun c_106 => ?_) (fun c_106 => ?_)
  ·
    have n_c_106 : (tk.toInt : Int) ≤ y_59.toInt := c_ge rfl rfl c_106
    have hP9 := hP.sub (ws' := [(o0, .inr (8, [.int x_th, .ref mwo, .ref mim, .ref mhi, .ref mlu, .ref mtp, .int x_td, .ref mfv, .int x_sz, .int x_at, .int x_fr, .int x_to, .int x_va, .int x_fk, .int x_fp, .ref mfr, .ref mwt, .int x_wt, .int x_op, .int x_jo, .ref mfg, .ref mpl, .long x_dr, .ref mtm, .ref mfa, .ref mqu, .ref mmo, .ref mwy, .ref mwn, .ref mma, .ref mwi, .ref mnu, .ref mmv])), (mwo, .inl (c_wo, 1875, .inl w_wo)), (mfa, .inl (c_fa, 20000, .inl f_60))]) [0, 1, 2] rfl
    have hD9 := hD.sub (ws' := [(o0, .inr (8, [.int x_th, .ref mwo, .ref mim, .ref mhi, .ref mlu, .ref mtp, .int x_td, .ref mfv, .int x_sz, .int x_at, .int x_fr, .int x_to, .int x_va, .int x_fk, .int x_fp, .ref mfr, .ref mwt, .int x_wt, .int x_op, .int x_jo, .ref mfg, .ref mpl, .long x_dr, .ref mtm, .ref mfa, .ref mqu, .ref mmo, .ref mwy, .ref mwn, .ref mma, .ref mwi, .ref mnu, .ref mmv])), (mwo, .inl (c_wo, 1875, .inl w_wo)), (mfa, .inl (c_fa, 20000, .inl f_60))]) [0, 1, 2] (by decide) rfl
    have hK9 := hK.sub (tys' := [(c_wo, .int), (c_fa, .int)]) [0, 1] rfl
    exact W.vret hx hb hr (fun t ht hW => ⟨⟨(), rfl, trivial, f_60, (fun j hj => hnw j (by omega)), by rw [ht]; exact hP9, va_K.moved hW.alike hK9, hD9⟩, hS.F ht⟩) hS.2.2 dX10_nowhere_25
  ·
    have n_c_106 : (y_59.toInt : Int) < tk.toInt := c_nge rfl rfl c_106
    have b_y_59 : (0 : Int) ≤ y_59.toInt ∧ y_59.toInt ≤ 19999 := r_lt1 b_y_59 b_tk n_c_106 (by decide)
    have b_tk : (1 : Int) ≤ tk.toInt ∧ tk.toInt ≤ 20000 := r_lt2 b_y_59 b_tk n_c_106 (by decide)
    refine lv_aload_n hx hb dX10_nowhere_12 rfl (lv_at hl 1 rfl) ?_
    refine va_get (D := (dC, dI)) (ci := 8) (v := .ref mfa) (C := RX10) (T := TX10) (N := 33) hx hb hts iX10_nowhereF_X10 hown hK hP 0 rfl rfl 24 (by decide) (hts (.fieldLink RX10 49 "LuckyTicketModel" "far" "[I") (List.mem_of_getElem? (i := 2) rfl)) (fun _ h9 => h9) rfl dX10_nowhere_13 ?_
    refine lv_iload_n hx hb dX10_nowhere_16 rfl (lv_at hl 0 rfl) ?_
    refine lv_iconst (v := (-1)) hx hb dX10_nowhere_17 (by decide) ?_
    refine va_iast hx hb hK hP hD hS 2 1 rfl rfl (vp_in_b b_y_59 (by decide) (by decide)) dX10_nowhere_18 (fun H locs hP hD hS => ?_)
    have hP : va_P (dC, dI) vwCl [(o0, .inr (8, [.int x_th, .ref mwo, .ref mim, .ref mhi, .ref mlu, .ref mtp, .int x_td, .ref mfv, .int x_sz, .int x_at, .int x_fr, .int x_to, .int x_va, .int x_fk, .int x_fp, .ref mfr, .ref mwt, .int x_wt, .int x_op, .int x_jo, .ref mfg, .ref mpl, .long x_dr, .ref mtm, .ref mfa, .ref mqu, .ref mmo, .ref mwy, .ref mwn, .ref mma, .ref mwi, .ref mnu, .ref mmv])), (mwo, .inl (c_wo, 1875, .inl w_wo)), (mfa, .inl (c_fa, 20000, .inl (upd f_60 (y_59 : Int32).toNatClampNeg (-1))))] H := hP
    have hD : va_D A [(o0, .inr (8, [.int x_th, .ref mwo, .ref mim, .ref mhi, .ref mlu, .ref mtp, .int x_td, .ref mfv, .int x_sz, .int x_at, .int x_fr, .int x_to, .int x_va, .int x_fk, .int x_fp, .ref mfr, .ref mwt, .int x_wt, .int x_op, .int x_jo, .ref mfg, .ref mpl, .long x_dr, .ref mtm, .ref mfa, .ref mqu, .ref mmo, .ref mwy, .ref mwn, .ref mma, .ref mwi, .ref mnu, .ref mmv])), (mwo, .inl (c_wo, 1875, .inl w_wo)), (mfa, .inl (c_fa, 20000, .inl (upd f_60 (y_59 : Int32).toNatClampNeg (-1))))] := hD
    generalize ef_f_107 : (upd f_60 (y_59 : Int32).toNatClampNeg (-1)) = f_107 at hP hD
    have hP : va_P (dC, dI) vwCl [(o0, .inr (8, [.int x_th, .ref mwo, .ref mim, .ref mhi, .ref mlu, .ref mtp, .int x_td, .ref mfv, .int x_sz, .int x_at, .int x_fr, .int x_to, .int x_va, .int x_fk, .int x_fp, .ref mfr, .ref mwt, .int x_wt, .int x_op, .int x_jo, .ref mfg, .ref mpl, .long x_dr, .ref mtm, .ref mfa, .ref mqu, .ref mmo, .ref mwy, .ref mwn, .ref mma, .ref mwi, .ref mnu, .ref mmv])), (mwo, .inl (c_wo, 1875, .inl w_wo)), (mfa, .inl (c_fa, 20000, .inl f_107))] H := hP
    have hD : va_D A [(o0, .inr (8, [.int x_th, .ref mwo, .ref mim, .ref mhi, .ref mlu, .ref mtp, .int x_td, .ref mfv, .int x_sz, .int x_at, .int x_fr, .int x_to, .int x_va, .int x_fk, .int x_fp, .ref mfr, .ref mwt, .int x_wt, .int x_op, .int x_jo, .ref mfg, .ref mpl, .long x_dr, .ref mtm, .ref mfa, .ref mqu, .ref mmo, .ref mwy, .ref mwn, .ref mma, .ref mwi, .ref mnu, .ref mmv])), (mwo, .inl (c_wo, 1875, .inl w_wo)), (mfa, .inl (c_fa, 20000, .inl f_107))] := hD
    obtain ⟨z_108, e_z_108⟩ : ∃ y : Int32, y = y_59 + 1 := ⟨_, rfl⟩
    refine lv_iinc (v := z_108) (lv' := [(1, .int z_108), (0, .ref o0)]) hx hb dX10_nowhere_19 hl (k := 0) rfl (by rw [e_z_108]; rfl) (by decide) rfl (fun ls hl => ?_)
    obtain ⟨q_z_108, b_z_108⟩ := ti_add (lo := 1) (hi := 20000) e_z_108 rfl (by decide : (1 : Int32).toInt = 1) b_y_59 (by decide : (1 : Int) ≤ (1 : Int32).toInt ∧ (1 : Int32).toInt ≤ 1) (by decide)
    refine lv_goto (tgt := 2) hx hb dX10_nowhere_22 (by decide) ?_
    exact ih_2_104 (z_108, f_107) _ _ _ ⟨(show (0 : Int) ≤ z_108.toInt ∧ z_108.toInt ≤ 20000 from (rg_w b_z_108 (by decide) (by decide))), (show ∀ j : Nat, j < z_108.toInt.toNat → f_107 j = -1 from (nw_step hnw (by omega) q_z_108 ef_f_107)), hP, hD, hS, lv_sub hl [0, 1] rfl⟩ (show (20000 - z_108.toInt).toNat < (20000 - y_59.toInt).toNat by omega)
theorem dX10_walksFrom_0 : decode cX10_walksFrom 0 = .ok (.aload_n 0, 1) := by decide +kernel
theorem dX10_walksFrom_1 : decode cX10_walksFrom 1 = .ok (.getfield 49, 3) := by decide +kernel
theorem dX10_walksFrom_4 : decode cX10_walksFrom 4 = .ok (.iload_n 2, 1) := by decide +kernel
theorem dX10_walksFrom_5 : decode cX10_walksFrom 5 = .ok (.iconst 0, 1) := by decide +kernel
theorem dX10_walksFrom_6 : decode cX10_walksFrom 6 = .ok (.iastore, 1) := by decide +kernel
theorem dX10_walksFrom_7 : decode cX10_walksFrom 7 = .ok (.aload_n 0, 1) := by decide +kernel
theorem dX10_walksFrom_8 : decode cX10_walksFrom 8 = .ok (.getfield 52, 3) := by decide +kernel
theorem dX10_walksFrom_11 : decode cX10_walksFrom 11 = .ok (.iconst 0, 1) := by decide +kernel
theorem dX10_walksFrom_12 : decode cX10_walksFrom 12 = .ok (.iload_n 2, 1) := by decide +kernel
theorem dX10_walksFrom_13 : decode cX10_walksFrom 13 = .ok (.iastore, 1) := by decide +kernel
theorem dX10_walksFrom_14 : decode cX10_walksFrom 14 = .ok (.iconst 1, 1) := by decide +kernel
theorem dX10_walksFrom_15 : decode cX10_walksFrom 15 = .ok (.istore_n 3, 1) := by decide +kernel
theorem dX10_walksFrom_16 : decode cX10_walksFrom 16 = .ok (.iconst 0, 1) := by decide +kernel
theorem dX10_walksFrom_17 : decode cX10_walksFrom 17 = .ok (.istore 4, 2) := by decide +kernel
theorem dX10_walksFrom_19 : decode cX10_walksFrom 19 = .ok (.iload 4, 2) := by decide +kernel
theorem dX10_walksFrom_21 : decode cX10_walksFrom 21 = .ok (.iload_n 3, 1) := by decide +kernel
theorem dX10_walksFrom_22 : decode cX10_walksFrom 22 = .ok (.if_icmp .ge 153, 3) := by decide +kernel
theorem dX10_walksFrom_25 : decode cX10_walksFrom 25 = .ok (.aload_n 0, 1) := by decide +kernel
theorem dX10_walksFrom_26 : decode cX10_walksFrom 26 = .ok (.getfield 52, 3) := by decide +kernel
theorem dX10_walksFrom_29 : decode cX10_walksFrom 29 = .ok (.iload 4, 2) := by decide +kernel
theorem dX10_walksFrom_31 : decode cX10_walksFrom 31 = .ok (.iaload, 1) := by decide +kernel
theorem dX10_walksFrom_32 : decode cX10_walksFrom 32 = .ok (.istore 5, 2) := by decide +kernel
theorem dX10_walksFrom_34 : decode cX10_walksFrom 34 = .ok (.iconst 1, 1) := by decide +kernel
theorem dX10_walksFrom_35 : decode cX10_walksFrom 35 = .ok (.istore 6, 2) := by decide +kernel
theorem dX10_walksFrom_37 : decode cX10_walksFrom 37 = .ok (.iconst 0, 1) := by decide +kernel
theorem dX10_walksFrom_38 : decode cX10_walksFrom 38 = .ok (.istore 7, 2) := by decide +kernel
theorem dX10_walksFrom_40 : decode cX10_walksFrom 40 = .ok (.iload 7, 2) := by decide +kernel
theorem dX10_walksFrom_42 : decode cX10_walksFrom 42 = .ok (.aload_n 0, 1) := by decide +kernel
theorem dX10_walksFrom_43 : decode cX10_walksFrom 43 = .ok (.getfield 9, 3) := by decide +kernel
theorem dX10_walksFrom_46 : decode cX10_walksFrom 46 = .ok (.iconst 0, 1) := by decide +kernel
theorem dX10_walksFrom_47 : decode cX10_walksFrom 47 = .ok (.iaload, 1) := by decide +kernel
theorem dX10_walksFrom_48 : decode cX10_walksFrom 48 = .ok (.if_icmp .ge 121, 3) := by decide +kernel
theorem dX10_walksFrom_51 : decode cX10_walksFrom 51 = .ok (.iload 5, 2) := by decide +kernel
theorem dX10_walksFrom_53 : decode cX10_walksFrom 53 = .ok (.iload 5, 2) := by decide +kernel
theorem dX10_walksFrom_55 : decode cX10_walksFrom 55 = .ok (.iload 6, 2) := by decide +kernel
theorem dX10_walksFrom_57 : decode cX10_walksFrom 57 = .ok (.idiv, 1) := by decide +kernel
theorem dX10_walksFrom_58 : decode cX10_walksFrom 58 = .ok (.aload_n 0, 1) := by decide +kernel
theorem dX10_walksFrom_59 : decode cX10_walksFrom 59 = .ok (.getfield 9, 3) := by decide +kernel
theorem dX10_walksFrom_62 : decode cX10_walksFrom 62 = .ok (.iconst 1, 1) := by decide +kernel
theorem dX10_walksFrom_63 : decode cX10_walksFrom 63 = .ok (.iaload, 1) := by decide +kernel
theorem dX10_walksFrom_64 : decode cX10_walksFrom 64 = .ok (.irem, 1) := by decide +kernel
theorem dX10_walksFrom_65 : decode cX10_walksFrom 65 = .ok (.iload 6, 2) := by decide +kernel
theorem dX10_walksFrom_67 : decode cX10_walksFrom 67 = .ok (.imul, 1) := by decide +kernel
theorem dX10_walksFrom_68 : decode cX10_walksFrom 68 = .ok (.isub, 1) := by decide +kernel
theorem dX10_walksFrom_69 : decode cX10_walksFrom 69 = .ok (.istore 8, 2) := by decide +kernel
theorem dX10_walksFrom_71 : decode cX10_walksFrom 71 = .ok (.iconst 0, 1) := by decide +kernel
theorem dX10_walksFrom_72 : decode cX10_walksFrom 72 = .ok (.istore 9, 2) := by decide +kernel
theorem dX10_walksFrom_74 : decode cX10_walksFrom 74 = .ok (.iload 9, 2) := by decide +kernel
theorem dX10_walksFrom_76 : decode cX10_walksFrom 76 = .ok (.aload_n 0, 1) := by decide +kernel
theorem dX10_walksFrom_77 : decode cX10_walksFrom 77 = .ok (.getfield 9, 3) := by decide +kernel
theorem dX10_walksFrom_80 : decode cX10_walksFrom 80 = .ok (.iconst 1, 1) := by decide +kernel
theorem dX10_walksFrom_81 : decode cX10_walksFrom 81 = .ok (.iaload, 1) := by decide +kernel
theorem dX10_walksFrom_82 : decode cX10_walksFrom 82 = .ok (.if_icmp .ge 70, 3) := by decide +kernel
theorem dX10_walksFrom_85 : decode cX10_walksFrom 85 = .ok (.iload 8, 2) := by decide +kernel
theorem dX10_walksFrom_87 : decode cX10_walksFrom 87 = .ok (.iload 9, 2) := by decide +kernel
theorem dX10_walksFrom_89 : decode cX10_walksFrom 89 = .ok (.iload 6, 2) := by decide +kernel
theorem dX10_walksFrom_91 : decode cX10_walksFrom 91 = .ok (.imul, 1) := by decide +kernel
theorem dX10_walksFrom_92 : decode cX10_walksFrom 92 = .ok (.iadd, 1) := by decide +kernel
theorem dX10_walksFrom_93 : decode cX10_walksFrom 93 = .ok (.istore 10, 2) := by decide +kernel
theorem dX10_walksFrom_95 : decode cX10_walksFrom 95 = .ok (.aload_n 0, 1) := by decide +kernel
theorem dX10_walksFrom_96 : decode cX10_walksFrom 96 = .ok (.getfield 49, 3) := by decide +kernel
theorem dX10_walksFrom_99 : decode cX10_walksFrom 99 = .ok (.iload 10, 2) := by decide +kernel
theorem dX10_walksFrom_101 : decode cX10_walksFrom 101 = .ok (.iaload, 1) := by decide +kernel
theorem dX10_walksFrom_102 : decode cX10_walksFrom 102 = .ok (.iconst (-1), 1) := by decide +kernel
theorem dX10_walksFrom_103 : decode cX10_walksFrom 103 = .ok (.if_icmp .ne 43, 3) := by decide +kernel
theorem dX10_walksFrom_106 : decode cX10_walksFrom 106 = .ok (.aload_n 0, 1) := by decide +kernel
theorem dX10_walksFrom_107 : decode cX10_walksFrom 107 = .ok (.iload_n 1, 1) := by decide +kernel
theorem dX10_walksFrom_108 : decode cX10_walksFrom 108 = .ok (.iload 10, 2) := by decide +kernel
theorem dX10_walksFrom_110 : decode cX10_walksFrom 110 = .ok (.invokevirtual 316, 3) := by decide +kernel
theorem dX10_walksFrom_113 : decode cX10_walksFrom 113 = .ok (.ifCond .ne 6, 3) := by decide +kernel
theorem dX10_walksFrom_116 : decode cX10_walksFrom 116 = .ok (.goto 30, 3) := by decide +kernel
theorem dX10_walksFrom_119 : decode cX10_walksFrom 119 = .ok (.aload_n 0, 1) := by decide +kernel
theorem dX10_walksFrom_120 : decode cX10_walksFrom 120 = .ok (.getfield 49, 3) := by decide +kernel
theorem dX10_walksFrom_123 : decode cX10_walksFrom 123 = .ok (.iload 10, 2) := by decide +kernel
theorem dX10_walksFrom_125 : decode cX10_walksFrom 125 = .ok (.aload_n 0, 1) := by decide +kernel
theorem dX10_walksFrom_126 : decode cX10_walksFrom 126 = .ok (.getfield 49, 3) := by decide +kernel
theorem dX10_walksFrom_129 : decode cX10_walksFrom 129 = .ok (.iload 5, 2) := by decide +kernel
theorem dX10_walksFrom_131 : decode cX10_walksFrom 131 = .ok (.iaload, 1) := by decide +kernel
theorem dX10_walksFrom_132 : decode cX10_walksFrom 132 = .ok (.iconst 1, 1) := by decide +kernel
theorem dX10_walksFrom_133 : decode cX10_walksFrom 133 = .ok (.iadd, 1) := by decide +kernel
theorem dX10_walksFrom_134 : decode cX10_walksFrom 134 = .ok (.iastore, 1) := by decide +kernel
theorem dX10_walksFrom_135 : decode cX10_walksFrom 135 = .ok (.aload_n 0, 1) := by decide +kernel
theorem dX10_walksFrom_136 : decode cX10_walksFrom 136 = .ok (.getfield 52, 3) := by decide +kernel
theorem dX10_walksFrom_139 : decode cX10_walksFrom 139 = .ok (.iload_n 3, 1) := by decide +kernel
theorem dX10_walksFrom_140 : decode cX10_walksFrom 140 = .ok (.iload 10, 2) := by decide +kernel
theorem dX10_walksFrom_142 : decode cX10_walksFrom 142 = .ok (.iastore, 1) := by decide +kernel
theorem dX10_walksFrom_143 : decode cX10_walksFrom 143 = .ok (.iinc 3 1, 3) := by decide +kernel
theorem dX10_walksFrom_146 : decode cX10_walksFrom 146 = .ok (.iinc 9 1, 3) := by decide +kernel
theorem dX10_walksFrom_149 : decode cX10_walksFrom 149 = .ok (.goto (-75), 3) := by decide +kernel
theorem dX10_walksFrom_152 : decode cX10_walksFrom 152 = .ok (.iload 6, 2) := by decide +kernel
theorem dX10_walksFrom_154 : decode cX10_walksFrom 154 = .ok (.aload_n 0, 1) := by decide +kernel
theorem dX10_walksFrom_155 : decode cX10_walksFrom 155 = .ok (.getfield 9, 3) := by decide +kernel
theorem dX10_walksFrom_158 : decode cX10_walksFrom 158 = .ok (.iconst 1, 1) := by decide +kernel
theorem dX10_walksFrom_159 : decode cX10_walksFrom 159 = .ok (.iaload, 1) := by decide +kernel
theorem dX10_walksFrom_160 : decode cX10_walksFrom 160 = .ok (.imul, 1) := by decide +kernel
theorem dX10_walksFrom_161 : decode cX10_walksFrom 161 = .ok (.istore 6, 2) := by decide +kernel
theorem dX10_walksFrom_163 : decode cX10_walksFrom 163 = .ok (.iinc 7 1, 3) := by decide +kernel
theorem dX10_walksFrom_166 : decode cX10_walksFrom 166 = .ok (.goto (-126), 3) := by decide +kernel
theorem dX10_walksFrom_169 : decode cX10_walksFrom 169 = .ok (.iinc 4 1, 3) := by decide +kernel
theorem dX10_walksFrom_172 : decode cX10_walksFrom 172 = .ok (.goto (-153), 3) := by decide +kernel
theorem dX10_walksFrom_175 : decode cX10_walksFrom 175 = .ok (.iload_n 3, 1) := by decide +kernel
theorem dX10_walksFrom_176 : decode cX10_walksFrom 176 = .ok (.ireturn, 1) := by decide +kernel
theorem hd_yX10_walksFrom : yX10_walksFrom.cls = RX10 ∧ yX10_walksFrom.cls ≠ "java/lang/invoke/MethodHandle" ∧ yX10_walksFrom.cls ≠ "java/lang/invoke/VarHandle" ∧ (parseMethodDescriptor yX10_walksFrom.desc).map (fun d => d.parameters.length) = some 2 := by decide +kernel
def uX10_walksFrom : List Cond := List.cons (.code yX10_walksFrom cX10_walksFrom 11 (some .int)) (HAppend.hAppend ([.fieldLink RX10 49 "LuckyTicketModel" "far" "[I", .fieldLink RX10 52 "LuckyTicketModel" "queue" "[I", .fieldLink RX10 9 "LuckyTicketModel" "world" "[I", .methodLink RX10 316 yX10_isLucky, .instanceMethod yX10_isLucky, .selects RX10 yX10_isLucky yX10_isLucky, .initialized RX10] : List Cond) (HAppend.hAppend uX10_isLucky wsX100))
theorem iX10_walksFrom_X10 : ∀ w ∈ wsX100, w ∈ uX10_walksFrom := fun _ h => (List.mem_cons_of_mem _ (List.mem_append_right _ (List.mem_append_right _ h)))
theorem guX10_walksFrom : GU uX10_walksFrom := gu_cons (gu_app (by decide +kernel) (gu_ap guX10_isLucky gws_X10))
theorem gX10_walksFrom__X10_isLucky_V316 : GoodIn uX10_walksFrom (wsV RX10 316 RX10 yX10_isLucky uX10_isLucky) := gin_V (List.mem_of_getElem? (i := 4) rfl) (List.mem_of_getElem? (i := 5) rfl) (List.mem_of_getElem? (i := 6) rfl) (List.mem_of_getElem? (i := 7) rfl) (fun _ h => (List.mem_cons_of_mem _ (List.mem_append_right _ (List.mem_append_left _ h)))) guX10_isLucky
set_option maxHeartbeats 4000000 in
set_option maxRecDepth 100000 in
theorem kX10_walksFrom (l : Launch) (dC : Nat → ClassId) (dI : Nat → Nat → Nat) (o0 : Nat) (x_th : Int32) (mwo : Nat) (mim : Nat) (mhi : Nat) (mlu : Nat) (mtp : Nat) (x_td : Int32) (mfv : Nat) (x_sz : Int32) (x_at : Int32) (x_fr : Int32) (x_to : Int32) (x_va : Int32) (x_fk : Int32) (x_fp : Int32) (mfr : Nat) (mwt : Nat) (x_wt : Int32) (x_op : Int32) (x_jo : Int32) (mfg : Nat) (mpl : Nat) (x_dr : Int64) (mtm : Nat) (mfa : Nat) (mqu : Nat) (mmo : Nat) (mwy : Nat) (mwn : Nat) (mma : Nat) (mwi : Nat) (mnu : Nat) (mmv : Nat) (c_wo : ClassId) (c_fa : ClassId) (c_qu : ClassId) (c_lu : ClassId) (w_wo : Nat → Int32) (w_fa : Nat → Int32) (w_qu : Nat → Int32) (w_lu : Nat → Int32) (ln : Int32) (bs : Int32) (tk : Int32) (lw : Int32) (li : Int32) (a1 : Int32) (a2 : Int32) (sz : Nat) (b_ln : (0 : Int) ≤ ln.toInt ∧ ln.toInt ≤ 12) (b_bs : (0 : Int) ≤ bs.toInt ∧ bs.toInt ≤ 16) (b_tk : (0 : Int) ≤ tk.toInt ∧ tk.toInt ≤ 20000) (b_lw : (0 : Int) ≤ lw.toInt ∧ lw.toInt ≤ 9) (b_a2 : (0 : Int) ≤ a2.toInt ∧ a2.toInt ≤ 19999) (hw0 : w_wo 0 = ln) (hw1 : w_wo 1 = bs) (hw2 : w_wo 2 = tk) (hw3 : w_wo 3 = lw) (hw4 : w_wo 4 = li) (hwz : (ln.toInt = 0 ∧ bs.toInt = 0 ∧ tk.toInt = 0 ∧ lw.toInt = 0) ∨ (1 ≤ ln.toInt ∧ 2 ≤ bs.toInt ∧ 1 ≤ tk.toInt)) (hf0 : w_fa a2.toNatClampNeg = -1) (htp : tk.toInt = ((bs.toInt.toNat ^ ln.toInt.toNat : Nat) : Int)) (ha2 : a2.toInt < tk.toInt) : Met l yX10_walksFrom uX10_walksFrom ({ frames := 1, cells := 0, slots := 0, locals := 22 }) (va_Pc [.ref o0, .int a1, .int a2] (hw (dC, dI) vwCl [(o0, .inr (8, [.int x_th, .ref mwo, .ref mim, .ref mhi, .ref mlu, .ref mtp, .int x_td, .ref mfv, .int x_sz, .int x_at, .int x_fr, .int x_to, .int x_va, .int x_fk, .int x_fp, .ref mfr, .ref mwt, .int x_wt, .int x_op, .int x_jo, .ref mfg, .ref mpl, .long x_dr, .ref mtm, .ref mfa, .ref mqu, .ref mmo, .ref mwy, .ref mwn, .ref mma, .ref mwi, .ref mnu, .ref mmv])), (mwo, .inl (c_wo, 1875, .inl w_wo)), (mfa, .inl (c_fa, 20000, .inl w_fa)), (mqu, .inl (c_qu, 20000, .inl w_qu)), (mlu, .inl (c_lu, 20000, .inl w_lu))] [(c_wo, .int), (c_fa, .int), (c_qu, .int), (c_lu, .int)] sz)) (va_Qi (fun (r : Int32) (_ : Unit) => ((1 : Int) ≤ r.toInt ∧ r.toInt ≤ 20000)) (fun (_ : Unit) t => ∃ (o0_ : Nat → Int32) (o1_ : Nat → Int32), va_P (dC, dI) vwCl [(o0, .inr (8, [.int x_th, .ref mwo, .ref mim, .ref mhi, .ref mlu, .ref mtp, .int x_td, .ref mfv, .int x_sz, .int x_at, .int x_fr, .int x_to, .int x_va, .int x_fk, .int x_fp, .ref mfr, .ref mwt, .int x_wt, .int x_op, .int x_jo, .ref mfg, .ref mpl, .long x_dr, .ref mtm, .ref mfa, .ref mqu, .ref mmo, .ref mwy, .ref mwn, .ref mma, .ref mwi, .ref mnu, .ref mmv])), (mwo, .inl (c_wo, 1875, .inl w_wo)), (mfa, .inl (c_fa, 20000, .inl o0_)), (mqu, .inl (c_qu, 20000, .inl o1_)), (mlu, .inl (c_lu, 20000, .inl w_lu))] t.heap ∧ va_K (dC, dI) vwCl [(c_wo, .int), (c_fa, .int), (c_qu, .int), (c_lu, .int)] t ∧ va_D (va_A [(o0, .inr (8, [.int x_th, .ref mwo, .ref mim, .ref mhi, .ref mlu, .ref mtp, .int x_td, .ref mfv, .int x_sz, .int x_at, .int x_fr, .int x_to, .int x_va, .int x_fk, .int x_fp, .ref mfr, .ref mwt, .int x_wt, .int x_op, .int x_jo, .ref mfg, .ref mpl, .long x_dr, .ref mtm, .ref mfa, .ref mqu, .ref mmo, .ref mwy, .ref mwn, .ref mma, .ref mwi, .ref mnu, .ref mmv])), (mwo, .inl (c_wo, 1875, .inl w_wo)), (mfa, .inl (c_fa, 20000, .inl w_fa)), (mqu, .inl (c_qu, 20000, .inl w_qu)), (mlu, .inl (c_lu, 20000, .inl w_lu))] sz) [(o0, .inr (8, [.int x_th, .ref mwo, .ref mim, .ref mhi, .ref mlu, .ref mtp, .int x_td, .ref mfv, .int x_sz, .int x_at, .int x_fr, .int x_to, .int x_va, .int x_fk, .int x_fp, .ref mfr, .ref mwt, .int x_wt, .int x_op, .int x_jo, .ref mfg, .ref mpl, .long x_dr, .ref mtm, .ref mfa, .ref mqu, .ref mmo, .ref mwy, .ref mwn, .ref mma, .ref mwi, .ref mnu, .ref mmv])), (mwo, .inl (c_wo, 1875, .inl w_wo)), (mfa, .inl (c_fa, 20000, .inl o0_)), (mqu, .inl (c_qu, 20000, .inl o1_)), (mlu, .inl (c_lu, 20000, .inl w_lu))]) (va_A [(o0, .inr (8, [.int x_th, .ref mwo, .ref mim, .ref mhi, .ref mlu, .ref mtp, .int x_td, .ref mfv, .int x_sz, .int x_at, .int x_fr, .int x_to, .int x_va, .int x_fk, .int x_fp, .ref mfr, .ref mwt, .int x_wt, .int x_op, .int x_jo, .ref mfg, .ref mpl, .long x_dr, .ref mtm, .ref mfa, .ref mqu, .ref mmo, .ref mwy, .ref mwn, .ref mma, .ref mwi, .ref mnu, .ref mmv])), (mwo, .inl (c_wo, 1875, .inl w_wo)), (mfa, .inl (c_fa, 20000, .inl w_fa)), (mqu, .inl (c_qu, 20000, .inl w_qu)), (mlu, .inl (c_lu, 20000, .inl w_lu))] sz)) 0 0 (va_A [(o0, .inr (8, [.int x_th, .ref mwo, .ref mim, .ref mhi, .ref mlu, .ref mtp, .int x_td, .ref mfv, .int x_sz, .int x_at, .int x_fr, .int x_to, .int x_va, .int x_fk, .int x_fp, .ref mfr, .ref mwt, .int x_wt, .int x_op, .int x_jo, .ref mfg, .ref mpl, .long x_dr, .ref mtm, .ref mfa, .ref mqu, .ref mmo, .ref mwy, .ref mwn, .ref mma, .ref mwi, .ref mnu, .ref mmv])), (mwo, .inl (c_wo, 1875, .inl w_wo)), (mfa, .inl (c_fa, 20000, .inl w_fa)), (mqu, .inl (c_qu, 20000, .inl w_qu)), (mlu, .inl (c_lu, 20000, .inl w_lu))] sz) := by
  refine Met.ofW (cc := cX10_walksFrom) (maxL := 11) (ret := (some .int)) pn_X10 rfl ?_
  intro p e s m args below meth c s₁ B hml hv
  obtain ⟨rfl, hsz, hP, hK, hD0, hN⟩ := hv
  have hx := B.exec
  have hb := B.bytes
  have hr := B.returns
  have hts := atoms_spec (ws := uX10_walksFrom) B.pre
  have hown : s.vm.findClass RX10 = some m.cls := hown_of B.named rfl
  have hlocks := B.notSynchronized
  subst hsz
  have hD := hD0.self (sz := s.heap.size)
  generalize hAe : va_A [(o0, .inr (8, [.int x_th, .ref mwo, .ref mim, .ref mhi, .ref mlu, .ref mtp, .int x_td, .ref mfv, .int x_sz, .int x_at, .int x_fr, .int x_to, .int x_va, .int x_fk, .int x_fp, .ref mfr, .ref mwt, .int x_wt, .int x_op, .int x_jo, .ref mfg, .ref mpl, .long x_dr, .ref mtm, .ref mfa, .ref mqu, .ref mmo, .ref mwy, .ref mwn, .ref mma, .ref mwi, .ref mnu, .ref mmv])), (mwo, .inl (c_wo, 1875, .inl w_wo)), (mfa, .inl (c_fa, 20000, .inl w_fa)), (mqu, .inl (c_qu, 20000, .inl w_qu)), (mlu, .inl (c_lu, 20000, .inl w_lu))] s.heap.size = A at hD ⊢
  have hA : ∀ q : Nat, s.heap.size ≤ q → A q := fun q h => by rw [← hAe]; exact Or.inr h
  have hS : va_S A s.heap s.heap [] := va_S.rf
  have hP : va_P (dC, dI) vwCl [(o0, .inr (8, [.int x_th, .ref mwo, .ref mim, .ref mhi, .ref mlu, .ref mtp, .int x_td, .ref mfv, .int x_sz, .int x_at, .int x_fr, .int x_to, .int x_va, .int x_fk, .int x_fp, .ref mfr, .ref mwt, .int x_wt, .int x_op, .int x_jo, .ref mfg, .ref mpl, .long x_dr, .ref mtm, .ref mfa, .ref mqu, .ref mmo, .ref mwy, .ref mwn, .ref mma, .ref mwi, .ref mnu, .ref mmv])), (mwo, .inl (c_wo, 1875, .inl w_wo)), (mfa, .inl (c_fa, 20000, .inl w_fa)), (mqu, .inl (c_qu, 20000, .inl w_qu)), (mlu, .inl (c_lu, 20000, .inl w_lu))] s.heap := hP
  have hl := lv_entry ([.ref o0, .int a1, .int a2]) (n := 11) (Nat.le_of_ble_eq_true rfl)
  rw [lg_entry_eq]
  generalize (lg_sl ([.ref o0, .int a1, .int a2]) ++ List.replicate (11 - (lg_sl ([.ref o0, .int a1, .int a2])).length) Slot.unset).toArray = ls at hl ⊢
  have hl : lv_has ls 11 [(0, .ref o0), (1, .int a1), (2, .int a2)] := hl
  refine lv_aload_n hx hb dX10_walksFrom_0 rfl (lv_at hl 0 rfl) ?_
  refine va_get (D := (dC, dI)) (ci := 8) (v := .ref mfa) (C := RX10) (T := TX10) (N := 33) hx hb hts iX10_walksFrom_X10 hown hK hP 0 rfl rfl 24 (by decide) (hts (.fieldLink RX10 49 "LuckyTicketModel" "far" "[I") (List.mem_of_getElem? (i := 1) rfl)) (fun _ h9 => h9) rfl dX10_walksFrom_1 ?_
  refine lv_iload_n hx hb dX10_walksFrom_4 rfl (lv_at hl 2 rfl) ?_
  refine lv_iconst (v := 0) hx hb dX10_walksFrom_5 (by decide) ?_
  refine va_iast hx hb hK hP hD hS 2 1 rfl rfl (vp_in_b b_a2 (by decide) (by decide)) dX10_walksFrom_6 (fun H locs hP hD hS => ?_)
  have hP : va_P (dC, dI) vwCl [(o0, .inr (8, [.int x_th, .ref mwo, .ref mim, .ref mhi, .ref mlu, .ref mtp, .int x_td, .ref mfv, .int x_sz, .int x_at, .int x_fr, .int x_to, .int x_va, .int x_fk, .int x_fp, .ref mfr, .ref mwt, .int x_wt, .int x_op, .int x_jo, .ref mfg, .ref mpl, .long x_dr, .ref mtm, .ref mfa, .ref mqu, .ref mmo, .ref mwy, .ref mwn, .ref mma, .ref mwi, .ref mnu, .ref mmv])), (mwo, .inl (c_wo, 1875, .inl w_wo)), (mfa, .inl (c_fa, 20000, .inl (upd w_fa (a2 : Int32).toNatClampNeg 0))), (mqu, .inl (c_qu, 20000, .inl w_qu)), (mlu, .inl (c_lu, 20000, .inl w_lu))] H := hP
  have hD : va_D A [(o0, .inr (8, [.int x_th, .ref mwo, .ref mim, .ref mhi, .ref mlu, .ref mtp, .int x_td, .ref mfv, .int x_sz, .int x_at, .int x_fr, .int x_to, .int x_va, .int x_fk, .int x_fp, .ref mfr, .ref mwt, .int x_wt, .int x_op, .int x_jo, .ref mfg, .ref mpl, .long x_dr, .ref mtm, .ref mfa, .ref mqu, .ref mmo, .ref mwy, .ref mwn, .ref mma, .ref mwi, .ref mnu, .ref mmv])), (mwo, .inl (c_wo, 1875, .inl w_wo)), (mfa, .inl (c_fa, 20000, .inl (upd w_fa (a2 : Int32).toNatClampNeg 0))), (mqu, .inl (c_qu, 20000, .inl w_qu)), (mlu, .inl (c_lu, 20000, .inl w_lu))] := hD
  generalize ef_f_11215 : (upd w_fa (a2 : Int32).toNatClampNeg 0) = f_11215 at hP hD
  have hP : va_P (dC, dI) vwCl [(o0, .inr (8, [.int x_th, .ref mwo, .ref mim, .ref mhi, .ref mlu, .ref mtp, .int x_td, .ref mfv, .int x_sz, .int x_at, .int x_fr, .int x_to, .int x_va, .int x_fk, .int x_fp, .ref mfr, .ref mwt, .int x_wt, .int x_op, .int x_jo, .ref mfg, .ref mpl, .long x_dr, .ref mtm, .ref mfa, .ref mqu, .ref mmo, .ref mwy, .ref mwn, .ref mma, .ref mwi, .ref mnu, .ref mmv])), (mwo, .inl (c_wo, 1875, .inl w_wo)), (mfa, .inl (c_fa, 20000, .inl f_11215)), (mqu, .inl (c_qu, 20000, .inl w_qu)), (mlu, .inl (c_lu, 20000, .inl w_lu))] H := hP
  have hD : va_D A [(o0, .inr (8, [.int x_th, .ref mwo, .ref mim, .ref mhi, .ref mlu, .ref mtp, .int x_td, .ref mfv, .int x_sz, .int x_at, .int x_fr, .int x_to, .int x_va, .int x_fk, .int x_fp, .ref mfr, .ref mwt, .int x_wt, .int x_op, .int x_jo, .ref mfg, .ref mpl, .long x_dr, .ref mtm, .ref mfa, .ref mqu, .ref mmo, .ref mwy, .ref mwn, .ref mma, .ref mwi, .ref mnu, .ref mmv])), (mwo, .inl (c_wo, 1875, .inl w_wo)), (mfa, .inl (c_fa, 20000, .inl f_11215)), (mqu, .inl (c_qu, 20000, .inl w_qu)), (mlu, .inl (c_lu, 20000, .inl w_lu))] := hD
  refine lv_aload_n hx hb dX10_walksFrom_7 rfl (lv_at hl 0 rfl) ?_
  refine va_get (D := (dC, dI)) (ci := 8) (v := .ref mqu) (C := RX10) (T := TX10) (N := 33) hx hb hts iX10_walksFrom_X10 hown hK hP 0 rfl rfl 25 (by decide) (hts (.fieldLink RX10 52 "LuckyTicketModel" "queue" "[I") (List.mem_of_getElem? (i := 2) rfl)) (fun _ h9 => h9) rfl dX10_walksFrom_8 ?_
  refine lv_iconst (v := 0) hx hb dX10_walksFrom_11 (by decide) ?_
  refine lv_iload_n hx hb dX10_walksFrom_12 rfl (lv_at hl 2 rfl) ?_
  refine va_iast hx hb hK hP hD hS 3 2 rfl rfl (vp_in_b (by decide : (0 : Int) ≤ (0 : Int32).toInt ∧ (0 : Int32).toInt ≤ 0) (by decide) (by decide)) dX10_walksFrom_13 (fun H locs hP hD hS => ?_)
  have hP : va_P (dC, dI) vwCl [(o0, .inr (8, [.int x_th, .ref mwo, .ref mim, .ref mhi, .ref mlu, .ref mtp, .int x_td, .ref mfv, .int x_sz, .int x_at, .int x_fr, .int x_to, .int x_va, .int x_fk, .int x_fp, .ref mfr, .ref mwt, .int x_wt, .int x_op, .int x_jo, .ref mfg, .ref mpl, .long x_dr, .ref mtm, .ref mfa, .ref mqu, .ref mmo, .ref mwy, .ref mwn, .ref mma, .ref mwi, .ref mnu, .ref mmv])), (mwo, .inl (c_wo, 1875, .inl w_wo)), (mfa, .inl (c_fa, 20000, .inl f_11215)), (mqu, .inl (c_qu, 20000, .inl (upd w_qu (0 : Int32).toNatClampNeg a2))), (mlu, .inl (c_lu, 20000, .inl w_lu))] H := hP
  have hD : va_D A [(o0, .inr (8, [.int x_th, .ref mwo, .ref mim, .ref mhi, .ref mlu, .ref mtp, .int x_td, .ref mfv, .int x_sz, .int x_at, .int x_fr, .int x_to, .int x_va, .int x_fk, .int x_fp, .ref mfr, .ref mwt, .int x_wt, .int x_op, .int x_jo, .ref mfg, .ref mpl, .long x_dr, .ref mtm, .ref mfa, .ref mqu, .ref mmo, .ref mwy, .ref mwn, .ref mma, .ref mwi, .ref mnu, .ref mmv])), (mwo, .inl (c_wo, 1875, .inl w_wo)), (mfa, .inl (c_fa, 20000, .inl f_11215)), (mqu, .inl (c_qu, 20000, .inl (upd w_qu (0 : Int32).toNatClampNeg a2))), (mlu, .inl (c_lu, 20000, .inl w_lu))] := hD
  generalize ef_f_11216 : (upd w_qu (0 : Int32).toNatClampNeg a2) = f_11216 at hP hD
  have hP : va_P (dC, dI) vwCl [(o0, .inr (8, [.int x_th, .ref mwo, .ref mim, .ref mhi, .ref mlu, .ref mtp, .int x_td, .ref mfv, .int x_sz, .int x_at, .int x_fr, .int x_to, .int x_va, .int x_fk, .int x_fp, .ref mfr, .ref mwt, .int x_wt, .int x_op, .int x_jo, .ref mfg, .ref mpl, .long x_dr, .ref mtm, .ref mfa, .ref mqu, .ref mmo, .ref mwy, .ref mwn, .ref mma, .ref mwi, .ref mnu, .ref mmv])), (mwo, .inl (c_wo, 1875, .inl w_wo)), (mfa, .inl (c_fa, 20000, .inl f_11215)), (mqu, .inl (c_qu, 20000, .inl f_11216)), (mlu, .inl (c_lu, 20000, .inl w_lu))] H := hP
  have hD : va_D A [(o0, .inr (8, [.int x_th, .ref mwo, .ref mim, .ref mhi, .ref mlu, .ref mtp, .int x_td, .ref mfv, .int x_sz, .int x_at, .int x_fr, .int x_to, .int x_va, .int x_fk, .int x_fp, .ref mfr, .ref mwt, .int x_wt, .int x_op, .int x_jo, .ref mfg, .ref mpl, .long x_dr, .ref mtm, .ref mfa, .ref mqu, .ref mmo, .ref mwy, .ref mwn, .ref mma, .ref mwi, .ref mnu, .ref mmv])), (mwo, .inl (c_wo, 1875, .inl w_wo)), (mfa, .inl (c_fa, 20000, .inl f_11215)), (mqu, .inl (c_qu, 20000, .inl f_11216)), (mlu, .inl (c_lu, 20000, .inl w_lu))] := hD
  refine lv_iconst (v := 1) hx hb dX10_walksFrom_14 (by decide) ?_
  refine lv_istore_n (lv' := [(3, .int 1), (0, .ref o0), (1, .int a1), (2, .int a2)]) hx hb dX10_walksFrom_15 rfl hl (by decide) rfl (fun ls hl => ?_)
  refine lv_iconst (v := 0) hx hb dX10_walksFrom_16 (by decide) ?_
  refine lv_istore (lv' := [(4, .int 0), (3, .int 1), (0, .ref o0), (1, .int a1), (2, .int a2)]) hx hb dX10_walksFrom_17 hl (by decide) rfl (fun ls hl => ?_)
  refine loopW (σ := Int32 × Int32 × (Nat → Int32) × (Nat → Int32)) (fun v => (tk.toInt - v.1.toInt).toNat) (fun v H locs ls => ((0 : Int) ≤ v.1.toInt ∧ v.1.toInt ≤ 20000) ∧ ((1 : Int) ≤ v.2.1.toInt ∧ v.2.1.toInt ≤ 20000) ∧ (wkI v.2.2.1 v.2.2.2 tk.toInt.toNat v.2.1.toInt.toNat) ∧ (v.1.toInt ≤ v.2.1.toInt) ∧ (v.2.1.toInt ≤ tk.toInt) ∧ va_P (dC, dI) vwCl [(o0, .inr (8, [.int x_th, .ref mwo, .ref mim, .ref mhi, .ref mlu, .ref mtp, .int x_td, .ref mfv, .int x_sz, .int x_at, .int x_fr, .int x_to, .int x_va, .int x_fk, .int x_fp, .ref mfr, .ref mwt, .int x_wt, .int x_op, .int x_jo, .ref mfg, .ref mpl, .long x_dr, .ref mtm, .ref mfa, .ref mqu, .ref mmo, .ref mwy, .ref mwn, .ref mma, .ref mwi, .ref mnu, .ref mmv])), (mwo, .inl (c_wo, 1875, .inl w_wo)), (mfa, .inl (c_fa, 20000, .inl v.2.2.1)), (mqu, .inl (c_qu, 20000, .inl v.2.2.2)), (mlu, .inl (c_lu, 20000, .inl w_lu))] H ∧ va_D A [(o0, .inr (8, [.int x_th, .ref mwo, .ref mim, .ref mhi, .ref mlu, .ref mtp, .int x_td, .ref mfv, .int x_sz, .int x_at, .int x_fr, .int x_to, .int x_va, .int x_fk, .int x_fp, .ref mfr, .ref mwt, .int x_wt, .int x_op, .int x_jo, .ref mfg, .ref mpl, .long x_dr, .ref mtm, .ref mfa, .ref mqu, .ref mmo, .ref mwy, .ref mwn, .ref mma, .ref mwi, .ref mnu, .ref mmv])), (mwo, .inl (c_wo, 1875, .inl w_wo)), (mfa, .inl (c_fa, 20000, .inl v.2.2.1)), (mqu, .inl (c_qu, 20000, .inl v.2.2.2)), (mlu, .inl (c_lu, 20000, .inl w_lu))] ∧ va_S A s.heap H locs ∧ lv_has ls 11 [(4, .int v.1), (3, .int v.2.1), (0, .ref o0), (1, .int a1), (2, .int a2)]) (fun v H locs ls hI ih_19_19626 => ?_) ((0 : Int32), (1 : Int32), f_11215, f_11216) ⟨(show (0 : Int) ≤ (0 : Int32).toInt ∧ (0 : Int32).toInt ≤ 20000 from (rg_w (by decide : (0 : Int) ≤ (0 : Int32).toInt ∧ (0 : Int32).toInt ≤ 0) (by decide) (by decide))), (show (1 : Int) ≤ (1 : Int32).toInt ∧ (1 : Int32).toInt ≤ 20000 from (rg_w (by decide : (1 : Int) ≤ (1 : Int32).toInt ∧ (1 : Int32).toInt ≤ 1) (by decide) (by decide))), (show wkI f_11215 f_11216 tk.toInt.toNat (1 : Int32).toInt.toNat from (wk_first (by omega) (by omega) hf0 ef_f_11215 ef_f_11216)), (show (0 : Int32).toInt ≤ (1 : Int32).toInt from (by have zl : (0 : Int32).toInt = 0 := (by decide); have zl : (1 : Int32).toInt = 1 := (by decide); omega)), (show (1 : Int32).toInt ≤ tk.toInt from (by have zl : (0 : Int32).toInt = 0 := (by decide); have zl : (1 : Int32).toInt = 1 := (by decide); omega)), hP, hD, hS, lv_sub hl [0, 1, 2, 3, 4] rfl⟩
  obtain ⟨y_14019, y_14020, f_14021, f_14022⟩ := v
  obtain ⟨b_y_14019, b_y_14020, hwk, hie, hel, hP, hD, hS, hl⟩ := hI
  have b_y_14019 : (0 : Int) ≤ y_14019.toInt ∧ y_14019.toInt ≤ 20000 := b_y_14019
  have b_y_14020 : (1 : Int) ≤ y_14020.toInt ∧ y_14020.toInt ≤ 20000 := b_y_14020
  have hwk : wkI f_14021 f_14022 tk.toInt.toNat y_14020.toInt.toNat := hwk
  have hie : y_14019.toInt ≤ y_14020.toInt := hie
  have hel : y_14020.toInt ≤ tk.toInt := hel
  have hP : va_P (dC, dI) vwCl [(o0, .inr (8, [.int x_th, .ref mwo, .ref mim, .ref mhi, .ref mlu, .ref mtp, .int x_td, .ref mfv, .int x_sz, .int x_at, .int x_fr, .int x_to, .int x_va, .int x_fk, .int x_fp, .ref mfr, .ref mwt, .int x_wt, .int x_op, .int x_jo, .ref mfg, .ref mpl, .long x_dr, .ref mtm, .ref mfa, .ref mqu, .ref mmo, .ref mwy, .ref mwn, .ref mma, .ref mwi, .ref mnu, .ref mmv])), (mwo, .inl (c_wo, 1875, .inl w_wo)), (mfa, .inl (c_fa, 20000, .inl f_14021)), (mqu, .inl (c_qu, 20000, .inl f_14022)), (mlu, .inl (c_lu, 20000, .inl w_lu))] H := hP
  have hD : va_D A [(o0, .inr (8, [.int x_th, .ref mwo, .ref mim, .ref mhi, .ref mlu, .ref mtp, .int x_td, .ref mfv, .int x_sz, .int x_at, .int x_fr, .int x_to, .int x_va, .int x_fk, .int x_fp, .ref mfr, .ref mwt, .int x_wt, .int x_op, .int x_jo, .ref mfg, .ref mpl, .long x_dr, .ref mtm, .ref mfa, .ref mqu, .ref mmo, .ref mwy, .ref mwn, .ref mma, .ref mwi, .ref mnu, .ref mmv])), (mwo, .inl (c_wo, 1875, .inl w_wo)), (mfa, .inl (c_fa, 20000, .inl f_14021)), (mqu, .inl (c_qu, 20000, .inl f_14022)), (mlu, .inl (c_lu, 20000, .inl w_lu))] := hD
  have hl : lv_has ls 11 [(4, .int y_14019), (3, .int y_14020), (0, .ref o0), (1, .int a1), (2, .int a2)] := hl
  refine lv_iload hx hb dX10_walksFrom_19 (lv_at hl 0 rfl) ?_
  refine lv_iload_n hx hb dX10_walksFrom_21 rfl (lv_at hl 1 rfl) ?_
  refine lv_icmp_ge (tgt := 175) hx hb dX10_walksFrom_22 (by decide) (fun c_19627 => ?_) (fun c_19627 => ?_)
  ·
    have n_c_19627 : (y_14020.toInt : Int) ≤ y_14019.toInt := c_ge rfl rfl c_19627
    have b_y_14019 : (1 : Int) ≤ y_14019.toInt ∧ y_14019.toInt ≤ 20000 := r_le2 b_y_14020 b_y_14019 n_c_19627 (by decide)
    refine lv_iload_n hx hb dX10_walksFrom_175 rfl (lv_at hl 1 rfl) ?_
    have hP9 := hP.sub (ws' := [(o0, .inr (8, [.int x_th, .ref mwo, .ref mim, .ref mhi, .ref mlu, .ref mtp, .int x_td, .ref mfv, .int x_sz, .int x_at, .int x_fr, .int x_to, .int x_va, .int x_fk, .int x_fp, .ref mfr, .ref mwt, .int x_wt, .int x_op, .int x_jo, .ref mfg, .ref mpl, .long x_dr, .ref mtm, .ref mfa, .ref mqu, .ref mmo, .ref mwy, .ref mwn, .ref mma, .ref mwi, .ref mnu, .ref mmv])), (mwo, .inl (c_wo, 1875, .inl w_wo)), (mfa, .inl (c_fa, 20000, .inl f_14021)), (mqu, .inl (c_qu, 20000, .inl f_14022)), (mlu, .inl (c_lu, 20000, .inl w_lu))]) [0, 1, 2, 3, 4] rfl
    have hD9 := hD.sub (ws' := [(o0, .inr (8, [.int x_th, .ref mwo, .ref mim, .ref mhi, .ref mlu, .ref mtp, .int x_td, .ref mfv, .int x_sz, .int x_at, .int x_fr, .int x_to, .int x_va, .int x_fk, .int x_fp, .ref mfr, .ref mwt, .int x_wt, .int x_op, .int x_jo, .ref mfg, .ref mpl, .long x_dr, .ref mtm, .ref mfa, .ref mqu, .ref mmo, .ref mwy, .ref mwn, .ref mma, .ref mwi, .ref mnu, .ref mmv])), (mwo, .inl (c_wo, 1875, .inl w_wo)), (mfa, .inl (c_fa, 20000, .inl f_14021)), (mqu, .inl (c_qu, 20000, .inl f_14022)), (mlu, .inl (c_lu, 20000, .inl w_lu))]) [0, 1, 2, 3, 4] (by decide) rfl
    have hK9 := hK.sub (tys' := [(c_wo, .int), (c_fa, .int), (c_qu, .int), (c_lu, .int)]) [0, 1, 2, 3] rfl
    exact W.iret (v := y_14020) hx hb hr (fun t ht hW => ⟨⟨y_14020, (), rfl, b_y_14020, f_14021, f_14022, by rw [ht]; exact hP9, va_K.moved hW.alike hK9, hD9⟩, hS.F ht⟩) hS.2.2 dX10_walksFrom_176
  ·
    have n_c_19627 : (y_14019.toInt : Int) < y_14020.toInt := c_nge rfl rfl c_19627
    have b_y_14019 : (0 : Int) ≤ y_14019.toInt ∧ y_14019.toInt ≤ 19999 := r_lt1 b_y_14019 b_y_14020 n_c_19627 (by decide)
    refine lv_aload_n hx hb dX10_walksFrom_25 rfl (lv_at hl 2 rfl) ?_
    refine va_get (D := (dC, dI)) (ci := 8) (v := .ref mqu) (C := RX10) (T := TX10) (N := 33) hx hb hts iX10_walksFrom_X10 hown hK hP 0 rfl rfl 25 (by decide) (hts (.fieldLink RX10 52 "LuckyTicketModel" "queue" "[I") (List.mem_of_getElem? (i := 2) rfl)) (fun _ h9 => h9) rfl dX10_walksFrom_26 ?_
    refine lv_iload hx hb dX10_walksFrom_29 (lv_at hl 0 rfl) ?_
    refine va_iald hx hb hK hP 3 2 rfl rfl (vp_in_b b_y_14019 (by decide) (by decide)) dX10_walksFrom_31 ?_
    refine lv_topi (fun z_19628 e_z_19628 => ?_)
    have htf : TF f_14021 tk.toInt.toNat y_14020 z_19628 := TF.of hwk (by omega) (by omega) e_z_19628
    have b_z_19628 : (0 : Int) ≤ z_19628.toInt ∧ z_19628.toInt ≤ 19999 := ⟨htf.1, by have q9 := htf.2.1; omega⟩
    refine lv_istore (lv' := [(5, .int z_19628), (4, .int y_14019), (3, .int y_14020), (0, .ref o0), (1, .int a1), (2, .int a2)]) hx hb dX10_walksFrom_32 hl (by decide) rfl (fun ls hl => ?_)
    refine lv_iconst (v := 1) hx hb dX10_walksFrom_34 (by decide) ?_
    refine lv_istore (lv' := [(6, .int 1), (5, .int z_19628), (4, .int y_14019), (3, .int y_14020), (0, .ref o0), (1, .int a1), (2, .int a2)]) hx hb dX10_walksFrom_35 hl (by decide) rfl (fun ls hl => ?_)
    refine lv_iconst (v := 0) hx hb dX10_walksFrom_37 (by decide) ?_
    refine lv_istore (lv' := [(7, .int 0), (6, .int 1), (5, .int z_19628), (4, .int y_14019), (3, .int y_14020), (0, .ref o0), (1, .int a1), (2, .int a2)]) hx hb dX10_walksFrom_38 hl (by decide) rfl (fun ls hl => ?_)
    refine loopW (σ := Int32 × Int32 × Int32 × (Nat → Int32) × (Nat → Int32)) (fun v => (12 - v.1.toInt).toNat) (fun v H locs ls => ((0 : Int) ≤ v.1.toInt ∧ v.1.toInt ≤ 12) ∧ ((1 : Int) ≤ v.2.1.toInt ∧ v.2.1.toInt ≤ 20000) ∧ ((1 : Int) ≤ v.2.2.1.toInt ∧ v.2.2.1.toInt ≤ 20000) ∧ (wkI v.2.2.2.1 v.2.2.2.2 tk.toInt.toNat v.2.2.1.toInt.toNat) ∧ (TF v.2.2.2.1 tk.toInt.toNat v.2.2.1 z_19628) ∧ (v.2.1.toInt.toNat = bs.toInt.toNat ^ v.1.toInt.toNat ∧ 1 ≤ v.2.1.toInt ∧ v.1.toInt ≤ ln.toInt) ∧ (y_14020.toInt ≤ v.2.2.1.toInt) ∧ va_P (dC, dI) vwCl [(o0, .inr (8, [.int x_th, .ref mwo, .ref mim, .ref mhi, .ref mlu, .ref mtp, .int x_td, .ref mfv, .int x_sz, .int x_at, .int x_fr, .int x_to, .int x_va, .int x_fk, .int x_fp, .ref mfr, .ref mwt, .int x_wt, .int x_op, .int x_jo, .ref mfg, .ref mpl, .long x_dr, .ref mtm, .ref mfa, .ref mqu, .ref mmo, .ref mwy, .ref mwn, .ref mma, .ref mwi, .ref mnu, .ref mmv])), (mwo, .inl (c_wo, 1875, .inl w_wo)), (mfa, .inl (c_fa, 20000, .inl v.2.2.2.1)), (mqu, .inl (c_qu, 20000, .inl v.2.2.2.2)), (mlu, .inl (c_lu, 20000, .inl w_lu))] H ∧ va_D A [(o0, .inr (8, [.int x_th, .ref mwo, .ref mim, .ref mhi, .ref mlu, .ref mtp, .int x_td, .ref mfv, .int x_sz, .int x_at, .int x_fr, .int x_to, .int x_va, .int x_fk, .int x_fp, .ref mfr, .ref mwt, .int x_wt, .int x_op, .int x_jo, .ref mfg, .ref mpl, .long x_dr, .ref mtm, .ref mfa, .ref mqu, .ref mmo, .ref mwy, .ref mwn, .ref mma, .ref mwi, .ref mnu, .ref mmv])), (mwo, .inl (c_wo, 1875, .inl w_wo)), (mfa, .inl (c_fa, 20000, .inl v.2.2.2.1)), (mqu, .inl (c_qu, 20000, .inl v.2.2.2.2)), (mlu, .inl (c_lu, 20000, .inl w_lu))] ∧ va_S A s.heap H locs ∧ lv_has ls 11 [(7, .int v.1), (6, .int v.2.1), (5, .int z_19628), (4, .int y_14019), (3, .int v.2.2.1), (0, .ref o0), (1, .int a1), (2, .int a2)]) (fun v H locs ls hI ih_40_21869 => ?_) ((0 : Int32), (1 : Int32), y_14020, f_14021, f_14022) ⟨(show (0 : Int) ≤ (0 : Int32).toInt ∧ (0 : Int32).toInt ≤ 12 from (rg_w (by decide : (0 : Int) ≤ (0 : Int32).toInt ∧ (0 : Int32).toInt ≤ 0) (by decide) (by decide))), (show (1 : Int) ≤ (1 : Int32).toInt ∧ (1 : Int32).toInt ≤ 20000 from (rg_w (by decide : (1 : Int) ≤ (1 : Int32).toInt ∧ (1 : Int32).toInt ≤ 1) (by decide) (by decide))), (show (1 : Int) ≤ y_14020.toInt ∧ y_14020.toInt ≤ 20000 from b_y_14020), (show wkI f_14021 f_14022 tk.toInt.toNat y_14020.toInt.toNat from (hwk)), (show TF f_14021 tk.toInt.toNat y_14020 z_19628 from (htf)), (show (1 : Int32).toInt.toNat = bs.toInt.toNat ^ (0 : Int32).toInt.toNat ∧ 1 ≤ (1 : Int32).toInt ∧ (0 : Int32).toInt ≤ ln.toInt from (⟨by rfl, by decide, by have z0 : (0 : Int32).toInt = 0 := (by decide); omega⟩)), (show y_14020.toInt ≤ y_14020.toInt from (by have zl : (0 : Int32).toInt = 0 := (by decide); have zl : (1 : Int32).toInt = 1 := (by decide); omega)), hP, hD, hS, lv_sub hl [0, 1, 2, 3, 4, 5, 6, 7] rfl⟩
    obtain ⟨y_20188, y_20189, y_20190, f_20191, f_20192⟩ := v
    obtain ⟨b_y_20188, b_y_20189, b_y_20190, hwk, htf, hun, hen, hP, hD, hS, hl⟩ := hI
    have b_y_20188 : (0 : Int) ≤ y_20188.toInt ∧ y_20188.toInt ≤ 12 := b_y_20188
    have b_y_20189 : (1 : Int) ≤ y_20189.toInt ∧ y_20189.toInt ≤ 20000 := b_y_20189
    have b_y_20190 : (1 : Int) ≤ y_20190.toInt ∧ y_20190.toInt ≤ 20000 := b_y_20190
    have hwk : wkI f_20191 f_20192 tk.toInt.toNat y_20190.toInt.toNat := hwk
    have htf : TF f_20191 tk.toInt.toNat y_20190 z_19628 := htf
    have hun : y_20189.toInt.toNat = bs.toInt.toNat ^ y_20188.toInt.toNat ∧ 1 ≤ y_20189.toInt ∧ y_20188.toInt ≤ ln.toInt := hun
    have hen : y_14020.toInt ≤ y_20190.toInt := hen
    have hP : va_P (dC, dI) vwCl [(o0, .inr (8, [.int x_th, .ref mwo, .ref mim, .ref mhi, .ref mlu, .ref mtp, .int x_td, .ref mfv, .int x_sz, .int x_at, .int x_fr, .int x_to, .int x_va, .int x_fk, .int x_fp, .ref mfr, .ref mwt, .int x_wt, .int x_op, .int x_jo, .ref mfg, .ref mpl, .long x_dr, .ref mtm, .ref mfa, .ref mqu, .ref mmo, .ref mwy, .ref mwn, .ref mma, .ref mwi, .ref mnu, .ref mmv])), (mwo, .inl (c_wo, 1875, .inl w_wo)), (mfa, .inl (c_fa, 20000, .inl f_20191)), (mqu, .inl (c_qu, 20000, .inl f_20192)), (mlu, .inl (c_lu, 20000, .inl w_lu))] H := hP
    have hD : va_D A [(o0, .inr (8, [.int x_th, .ref mwo, .ref mim, .ref mhi, .ref mlu, .ref mtp, .int x_td, .ref mfv, .int x_sz, .int x_at, .int x_fr, .int x_to, .int x_va, .int x_fk, .int x_fp, .ref mfr, .ref mwt, .int x_wt, .int x_op, .int x_jo, .ref mfg, .ref mpl, .long x_dr, .ref mtm, .ref mfa, .ref mqu, .ref mmo, .ref mwy, .ref mwn, .ref mma, .ref mwi, .ref mnu, .ref mmv])), (mwo, .inl (c_wo, 1875, .inl w_wo)), (mfa, .inl (c_fa, 20000, .inl f_20191)), (mqu, .inl (c_qu, 20000, .inl f_20192)), (mlu, .inl (c_lu, 20000, .inl w_lu))] := hD
    have hl : lv_has ls 11 [(7, .int y_20188), (6, .int y_20189), (5, .int z_19628), (4, .int y_14019), (3, .int y_20190), (0, .ref o0), (1, .int a1), (2, .int a2)] := hl
    refine lv_iload hx hb dX10_walksFrom_40 (lv_at hl 0 rfl) ?_
    refine lv_aload_n hx hb dX10_walksFrom_42 rfl (lv_at hl 5 rfl) ?_
    refine va_get (D := (dC, dI)) (ci := 8) (v := .ref mwo) (C := RX10) (T := TX10) (N := 33) hx hb hts iX10_walksFrom_X10 hown hK hP 0 rfl rfl 1 (by decide) (hts (.fieldLink RX10 9 "LuckyTicketModel" "world" "[I") (List.mem_of_getElem? (i := 3) rfl)) (fun _ h9 => h9) rfl dX10_walksFrom_43 ?_
    refine lv_iconst (v := 0) hx hb dX10_walksFrom_46 (by decide) ?_
    refine va_iald hx hb hK hP 1 0 rfl rfl (vp_in_b (by decide : (0 : Int) ≤ (0 : Int32).toInt ∧ (0 : Int32).toInt ≤ 0) (by decide) (by decide)) dX10_walksFrom_47 ?_
    refine lv_topi (fun z_21870 e_z_21870 => ?_)
    obtain rfl : ln = z_21870 := (e_z_21870.trans hw0).symm
    refine lv_icmp_ge (tgt := 169) hx hb dX10_walksFrom_48 (by decide) (fun c_21871 => ?_) (fun c_21871 => ?_)
    ·
      have n_c_21871 : (ln.toInt : Int) ≤ y_20188.toInt := c_ge rfl rfl c_21871
      obtain ⟨z_22150, e_z_22150⟩ : ∃ y : Int32, y = y_14019 + 1 := ⟨_, rfl⟩
      refine lv_iinc (v := z_22150) (lv' := [(4, .int z_22150), (7, .int y_20188), (6, .int y_20189), (5, .int z_19628), (3, .int y_20190), (0, .ref o0), (1, .int a1), (2, .int a2)]) hx hb dX10_walksFrom_169 hl (k := 3) rfl (by rw [e_z_22150]; rfl) (by decide) rfl (fun ls hl => ?_)
      obtain ⟨q_z_22150, b_z_22150⟩ := ti_add (lo := 1) (hi := 20000) e_z_22150 rfl (by decide : (1 : Int32).toInt = 1) b_y_14019 (by decide : (1 : Int) ≤ (1 : Int32).toInt ∧ (1 : Int32).toInt ≤ 1) (by decide)
      refine lv_goto (tgt := 19) hx hb dX10_walksFrom_172 (by decide) ?_
      exact ih_19_19626 (z_22150, y_20190, f_20191, f_20192) _ _ _ ⟨(show (0 : Int) ≤ z_22150.toInt ∧ z_22150.toInt ≤ 20000 from (rg_w b_z_22150 (by decide) (by decide))), (show (1 : Int) ≤ y_20190.toInt ∧ y_20190.toInt ≤ 20000 from b_y_20190), (show wkI f_20191 f_20192 tk.toInt.toNat y_20190.toInt.toNat from (hwk)), (show z_22150.toInt ≤ y_20190.toInt from (by omega)), (show y_20190.toInt ≤ tk.toInt from (by have q9 := wkI_le hwk; omega)), hP, hD, hS, lv_sub hl [0, 4, 5, 6, 7] rfl⟩ (show (tk.toInt - z_22150.toInt).toNat < (tk.toInt - y_14019.toInt).toNat by omega)
    ·
      have n_c_21871 : (y_20188.toInt : Int) < ln.toInt := c_nge rfl rfl c_21871
      have b_y_20188 : (0 : Int) ≤ y_20188.toInt ∧ y_20188.toInt ≤ 11 := r_lt1 b_y_20188 b_ln n_c_21871 (by decide)
      have b_ln : (1 : Int) ≤ ln.toInt ∧ ln.toInt ≤ 12 := r_lt2 b_y_20188 b_ln n_c_21871 (by decide)
      refine lv_iload hx hb dX10_walksFrom_51 (lv_at hl 2 rfl) ?_
      refine lv_iload hx hb dX10_walksFrom_53 (lv_at hl 2 rfl) ?_
      refine lv_iload hx hb dX10_walksFrom_55 (lv_at hl 1 rfl) ?_
      refine lv_idiv hx hb dX10_walksFrom_57 (ti_ne b_y_20189 (by decide)) ?_
      refine lv_topi (fun z_22151 e_z_22151 => ?_)
      obtain ⟨q_z_22151, b_z_22151⟩ := ti_div (hi := 19999) e_z_22151 rfl rfl b_z_19628 b_y_20189 (by decide)
      refine lv_aload_n hx hb dX10_walksFrom_58 rfl (lv_at hl 5 rfl) ?_
      refine va_get (D := (dC, dI)) (ci := 8) (v := .ref mwo) (C := RX10) (T := TX10) (N := 33) hx hb hts iX10_walksFrom_X10 hown hK hP 0 rfl rfl 1 (by decide) (hts (.fieldLink RX10 9 "LuckyTicketModel" "world" "[I") (List.mem_of_getElem? (i := 3) rfl)) (fun _ h9 => h9) rfl dX10_walksFrom_59 ?_
      refine lv_iconst (v := 1) hx hb dX10_walksFrom_62 (by decide) ?_
      refine va_iald hx hb hK hP 1 0 rfl rfl (vp_in_b (by decide : (1 : Int) ≤ (1 : Int32).toInt ∧ (1 : Int32).toInt ≤ 1) (by decide) (by decide)) dX10_walksFrom_63 ?_
      refine lv_topi (fun z_22152 e_z_22152 => ?_)
      obtain rfl : bs = z_22152 := (e_z_22152.trans hw1).symm
      have b_bs : (1 : Int) ≤ bs.toInt ∧ bs.toInt ≤ 16 := ⟨by omega, (b_bs).2⟩
      refine lv_irem hx hb dX10_walksFrom_64 (ti_ne b_bs (by decide)) ?_
      refine lv_topi (fun z_22153 e_z_22153 => ?_)
      obtain ⟨q_z_22153, b_z_22153⟩ := ti_rem (hi := 15) e_z_22153 rfl rfl b_z_22151 b_bs (by decide)
      refine lv_iload hx hb dX10_walksFrom_65 (lv_at hl 1 rfl) ?_
      refine lv_imul hx hb dX10_walksFrom_67 ?_
      refine lv_topi (fun z_22154 e_z_22154 => ?_)
      obtain ⟨q_z_22154, b_z_22154⟩ := ti_mul (lo := 0) (hi := 300000) e_z_22154 rfl rfl b_z_22153 b_y_20189 (by decide)
      refine lv_isub hx hb dX10_walksFrom_68 ?_
      refine lv_topi (fun z_22155 e_z_22155 => ?_)
      obtain ⟨q_z_22155, b_z_22155⟩ := ti_sub (lo := -300000) (hi := 19999) e_z_22155 rfl rfl b_z_19628 b_z_22154 (by decide)
      refine lv_istore (lv' := [(8, .int z_22155), (7, .int y_20188), (6, .int y_20189), (5, .int z_19628), (4, .int y_14019), (3, .int y_20190), (0, .ref o0), (1, .int a1), (2, .int a2)]) hx hb dX10_walksFrom_69 hl (by decide) rfl (fun ls hl => ?_)
      refine lv_iconst (v := 0) hx hb dX10_walksFrom_71 (by decide) ?_
      refine lv_istore (lv' := [(9, .int 0), (8, .int z_22155), (7, .int y_20188), (6, .int y_20189), (5, .int z_19628), (4, .int y_14019), (3, .int y_20190), (0, .ref o0), (1, .int a1), (2, .int a2)]) hx hb dX10_walksFrom_72 hl (by decide) rfl (fun ls hl => ?_)
      refine loopW (σ := Int32 × Int32 × (Nat → Int32) × (Nat → Int32)) (fun v => (16 - v.1.toInt).toNat) (fun v H locs ls => ((0 : Int) ≤ v.1.toInt ∧ v.1.toInt ≤ 16) ∧ ((1 : Int) ≤ v.2.1.toInt ∧ v.2.1.toInt ≤ 20000) ∧ (wkI v.2.2.1 v.2.2.2 tk.toInt.toNat v.2.1.toInt.toNat) ∧ (TF v.2.2.1 tk.toInt.toNat v.2.1 z_19628) ∧ (y_14020.toInt ≤ v.2.1.toInt) ∧ va_P (dC, dI) vwCl [(o0, .inr (8, [.int x_th, .ref mwo, .ref mim, .ref mhi, .ref mlu, .ref mtp, .int x_td, .ref mfv, .int x_sz, .int x_at, .int x_fr, .int x_to, .int x_va, .int x_fk, .int x_fp, .ref mfr, .ref mwt, .int x_wt, .int x_op, .int x_jo, .ref mfg, .ref mpl, .long x_dr, .ref mtm, .ref mfa, .ref mqu, .ref mmo, .ref mwy, .ref mwn, .ref mma, .ref mwi, .ref mnu, .ref mmv])), (mwo, .inl (c_wo, 1875, .inl w_wo)), (mfa, .inl (c_fa, 20000, .inl v.2.2.1)), (mqu, .inl (c_qu, 20000, .inl v.2.2.2)), (mlu, .inl (c_lu, 20000, .inl w_lu))] H ∧ va_D A [(o0, .inr (8, [.int x_th, .ref mwo, .ref mim, .ref mhi, .ref mlu, .ref mtp, .int x_td, .ref mfv, .int x_sz, .int x_at, .int x_fr, .int x_to, .int x_va, .int x_fk, .int x_fp, .ref mfr, .ref mwt, .int x_wt, .int x_op, .int x_jo, .ref mfg, .ref mpl, .long x_dr, .ref mtm, .ref mfa, .ref mqu, .ref mmo, .ref mwy, .ref mwn, .ref mma, .ref mwi, .ref mnu, .ref mmv])), (mwo, .inl (c_wo, 1875, .inl w_wo)), (mfa, .inl (c_fa, 20000, .inl v.2.2.1)), (mqu, .inl (c_qu, 20000, .inl v.2.2.2)), (mlu, .inl (c_lu, 20000, .inl w_lu))] ∧ va_S A s.heap H locs ∧ lv_has ls 11 [(9, .int v.1), (8, .int z_22155), (7, .int y_20188), (6, .int y_20189), (5, .int z_19628), (4, .int y_14019), (3, .int v.2.1), (0, .ref o0), (1, .int a1), (2, .int a2)]) (fun v H locs ls hI ih_74_22379 => ?_) ((0 : Int32), y_20190, f_20191, f_20192) ⟨(show (0 : Int) ≤ (0 : Int32).toInt ∧ (0 : Int32).toInt ≤ 16 from (rg_w (by decide : (0 : Int) ≤ (0 : Int32).toInt ∧ (0 : Int32).toInt ≤ 0) (by decide) (by decide))), (show (1 : Int) ≤ y_20190.toInt ∧ y_20190.toInt ≤ 20000 from b_y_20190), (show wkI f_20191 f_20192 tk.toInt.toNat y_20190.toInt.toNat from (hwk)), (show TF f_20191 tk.toInt.toNat y_20190 z_19628 from (htf)), (show y_14020.toInt ≤ y_20190.toInt from (by have zl : (0 : Int32).toInt = 0 := (by decide); omega)), hP, hD, hS, lv_sub hl [0, 1, 2, 3, 4, 5, 6, 7, 8, 9] rfl⟩
      obtain ⟨y_22180, y_22181, f_22182, f_22183⟩ := v
      obtain ⟨b_y_22180, b_y_22181, hwk, htf, hen, hP, hD, hS, hl⟩ := hI
      have b_y_22180 : (0 : Int) ≤ y_22180.toInt ∧ y_22180.toInt ≤ 16 := b_y_22180
      have b_y_22181 : (1 : Int) ≤ y_22181.toInt ∧ y_22181.toInt ≤ 20000 := b_y_22181
      have hwk : wkI f_22182 f_22183 tk.toInt.toNat y_22181.toInt.toNat := hwk
      have htf : TF f_22182 tk.toInt.toNat y_22181 z_19628 := htf
      have hen : y_14020.toInt ≤ y_22181.toInt := hen
      have hP : va_P (dC, dI) vwCl [(o0, .inr (8, [.int x_th, .ref mwo, .ref mim, .ref mhi, .ref mlu, .ref mtp, .int x_td, .ref mfv, .int x_sz, .int x_at, .int x_fr, .int x_to, .int x_va, .int x_fk, .int x_fp, .ref mfr, .ref mwt, .int x_wt, .int x_op, .int x_jo, .ref mfg, .ref mpl, .long x_dr, .ref mtm, .ref mfa, .ref mqu, .ref mmo, .ref mwy, .ref mwn, .ref mma, .ref mwi, .ref mnu, .ref mmv])), (mwo, .inl (c_wo, 1875, .inl w_wo)), (mfa, .inl (c_fa, 20000, .inl f_22182)), (mqu, .inl (c_qu, 20000, .inl f_22183)), (mlu, .inl (c_lu, 20000, .inl w_lu))] H := hP
      have hD : va_D A [(o0, .inr (8, [.int x_th, .ref mwo, .ref mim, .ref mhi, .ref mlu, .ref mtp, .int x_td, .ref mfv, .int x_sz, .int x_at, .int x_fr, .int x_to, .int x_va, .int x_fk, .int x_fp, .ref mfr, .ref mwt, .int x_wt, .int x_op, .int x_jo, .ref mfg, .ref mpl, .long x_dr, .ref mtm, .ref mfa, .ref mqu, .ref mmo, .ref mwy, .ref mwn, .ref mma, .ref mwi, .ref mnu, .ref mmv])), (mwo, .inl (c_wo, 1875, .inl w_wo)), (mfa, .inl (c_fa, 20000, .inl f_22182)), (mqu, .inl (c_qu, 20000, .inl f_22183)), (mlu, .inl (c_lu, 20000, .inl w_lu))] := hD
      have hl : lv_has ls 11 [(9, .int y_22180), (8, .int z_22155), (7, .int y_20188), (6, .int y_20189), (5, .int z_19628), (4, .int y_14019), (3, .int y_22181), (0, .ref o0), (1, .int a1), (2, .int a2)] := hl
      refine lv_iload hx hb dX10_walksFrom_74 (lv_at hl 0 rfl) ?_
      refine lv_aload_n hx hb dX10_walksFrom_76 rfl (lv_at hl 7 rfl) ?_
      refine va_get (D := (dC, dI)) (ci := 8) (v := .ref mwo) (C := RX10) (T := TX10) (N := 33) hx hb hts iX10_walksFrom_X10 hown hK hP 0 rfl rfl 1 (by decide) (hts (.fieldLink RX10 9 "LuckyTicketModel" "world" "[I") (List.mem_of_getElem? (i := 3) rfl)) (fun _ h9 => h9) rfl dX10_walksFrom_77 ?_
      refine lv_iconst (v := 1) hx hb dX10_walksFrom_80 (by decide) ?_
      refine va_iald hx hb hK hP 1 0 rfl rfl (vp_in_b (by decide : (1 : Int) ≤ (1 : Int32).toInt ∧ (1 : Int32).toInt ≤ 1) (by decide) (by decide)) dX10_walksFrom_81 ?_
      refine lv_topi (fun z_22380 e_z_22380 => ?_)
      obtain rfl : bs = z_22380 := (e_z_22380.trans hw1).symm
      refine lv_icmp_ge (tgt := 152) hx hb dX10_walksFrom_82 (by decide) (fun c_22381 => ?_) (fun c_22381 => ?_)
      ·
        have n_c_22381 : (bs.toInt : Int) ≤ y_22180.toInt := c_ge rfl rfl c_22381
        have b_y_22180 : (1 : Int) ≤ y_22180.toInt ∧ y_22180.toInt ≤ 16 := r_le2 b_bs b_y_22180 n_c_22381 (by decide)
        refine lv_iload hx hb dX10_walksFrom_152 (lv_at hl 3 rfl) ?_
        refine lv_aload_n hx hb dX10_walksFrom_154 rfl (lv_at hl 7 rfl) ?_
        refine va_get (D := (dC, dI)) (ci := 8) (v := .ref mwo) (C := RX10) (T := TX10) (N := 33) hx hb hts iX10_walksFrom_X10 hown hK hP 0 rfl rfl 1 (by decide) (hts (.fieldLink RX10 9 "LuckyTicketModel" "world" "[I") (List.mem_of_getElem? (i := 3) rfl)) (fun _ h9 => h9) rfl dX10_walksFrom_155 ?_
        refine lv_iconst (v := 1) hx hb dX10_walksFrom_158 (by decide) ?_
        refine va_iald hx hb hK hP 1 0 rfl rfl (vp_in_b (by decide : (1 : Int) ≤ (1 : Int32).toInt ∧ (1 : Int32).toInt ≤ 1) (by decide) (by decide)) dX10_walksFrom_159 ?_
        refine lv_topi (fun z_22404 e_z_22404 => ?_)
        obtain rfl : bs = z_22404 := (e_z_22404.trans hw1).symm
        refine lv_imul hx hb dX10_walksFrom_160 ?_
        refine lv_topi (fun z_22405 e_z_22405 => ?_)
        obtain ⟨q_z_22405, b_z_22405⟩ := ti_mul (lo := 1) (hi := 320000) e_z_22405 rfl rfl b_y_20189 b_bs (by decide)
        refine lv_istore (lv' := [(6, .int z_22405), (9, .int y_22180), (8, .int z_22155), (7, .int y_20188), (5, .int z_19628), (4, .int y_14019), (3, .int y_22181), (0, .ref o0), (1, .int a1), (2, .int a2)]) hx hb dX10_walksFrom_161 hl (by decide) rfl (fun ls hl => ?_)
        obtain ⟨z_22406, e_z_22406⟩ : ∃ y : Int32, y = y_20188 + 1 := ⟨_, rfl⟩
        refine lv_iinc (v := z_22406) (lv' := [(7, .int z_22406), (6, .int z_22405), (9, .int y_22180), (8, .int z_22155), (5, .int z_19628), (4, .int y_14019), (3, .int y_22181), (0, .ref o0), (1, .int a1), (2, .int a2)]) hx hb dX10_walksFrom_163 hl (k := 3) rfl (by rw [e_z_22406]; rfl) (by decide) rfl (fun ls hl => ?_)
        obtain ⟨q_z_22406, b_z_22406⟩ := ti_add (lo := 1) (hi := 12) e_z_22406 rfl (by decide : (1 : Int32).toInt = 1) b_y_20188 (by decide : (1 : Int) ≤ (1 : Int32).toInt ∧ (1 : Int32).toInt ≤ 1) (by decide)
        have hu9 := wk_unit (p' := z_22406) hun.1 q_z_22405 hun.2.1 (by omega) htp (by omega) (by omega) q_z_22406
        have b_z_22405 : (1 : Int) ≤ z_22405.toInt ∧ z_22405.toInt ≤ 20000 := ⟨hu9.2.1, by have q9 := hu9.2.2; omega⟩
        refine lv_goto (tgt := 40) hx hb dX10_walksFrom_166 (by decide) ?_
        exact ih_40_21869 (z_22406, z_22405, y_22181, f_22182, f_22183) _ _ _ ⟨(show (0 : Int) ≤ z_22406.toInt ∧ z_22406.toInt ≤ 12 from (rg_w b_z_22406 (by decide) (by decide))), (show (1 : Int) ≤ z_22405.toInt ∧ z_22405.toInt ≤ 20000 from b_z_22405), (show (1 : Int) ≤ y_22181.toInt ∧ y_22181.toInt ≤ 20000 from b_y_22181), (show wkI f_22182 f_22183 tk.toInt.toNat y_22181.toInt.toNat from (hwk)), (show TF f_22182 tk.toInt.toNat y_22181 z_19628 from (htf)), (show z_22405.toInt.toNat = bs.toInt.toNat ^ z_22406.toInt.toNat ∧ 1 ≤ z_22405.toInt ∧ z_22406.toInt ≤ ln.toInt from (⟨hu9.1, hu9.2.1, by omega⟩)), (show y_14020.toInt ≤ y_22181.toInt from (by omega)), hP, hD, hS, lv_sub hl [0, 1, 4, 5, 6, 7, 8, 9] rfl⟩ (show (12 - z_22406.toInt).toNat < (12 - y_20188.toInt).toNat by omega)
      ·
        have n_c_22381 : (y_22180.toInt : Int) < bs.toInt := c_nge rfl rfl c_22381
        have b_y_22180 : (0 : Int) ≤ y_22180.toInt ∧ y_22180.toInt ≤ 15 := r_lt1 b_y_22180 b_bs n_c_22381 (by decide)
        refine lv_iload hx hb dX10_walksFrom_85 (lv_at hl 1 rfl) ?_
        refine lv_iload hx hb dX10_walksFrom_87 (lv_at hl 0 rfl) ?_
        refine lv_iload hx hb dX10_walksFrom_89 (lv_at hl 3 rfl) ?_
        refine lv_imul hx hb dX10_walksFrom_91 ?_
        refine lv_topi (fun z_22407 e_z_22407 => ?_)
        obtain ⟨q_z_22407, b_z_22407⟩ := ti_mul (lo := 0) (hi := 300000) e_z_22407 rfl rfl b_y_22180 b_y_20189 (by decide)
        refine lv_iadd hx hb dX10_walksFrom_92 ?_
        refine lv_topi (fun z_22408 e_z_22408 => ?_)
        obtain ⟨q_z_22408, b_z_22408⟩ := ti_add (lo := -300000) (hi := 319999) e_z_22408 rfl rfl b_z_22155 b_z_22407 (by decide)
        refine lv_istore (lv' := [(10, .int z_22408), (9, .int y_22180), (8, .int z_22155), (7, .int y_20188), (6, .int y_20189), (5, .int z_19628), (4, .int y_14019), (3, .int y_22181), (0, .ref o0), (1, .int a1), (2, .int a2)]) hx hb dX10_walksFrom_93 hl (by decide) rfl (fun ls hl => ?_)
        have hto : 0 ≤ z_22408.toInt ∧ z_22408.toInt < tk.toInt := wk_int q_z_22151 q_z_22153.1 q_z_22154 q_z_22155 q_z_22407 q_z_22408 hun.1 (by omega) (by omega) htp (by omega) (by omega) htf.1 (by have q9 := htf.2.1; omega) (by omega) (by omega)
        have b_z_22408 : (0 : Int) ≤ z_22408.toInt ∧ z_22408.toInt ≤ 19999 := ⟨hto.1, by omega⟩
        refine lv_aload_n hx hb dX10_walksFrom_95 rfl (lv_at hl 8 rfl) ?_
        refine va_get (D := (dC, dI)) (ci := 8) (v := .ref mfa) (C := RX10) (T := TX10) (N := 33) hx hb hts iX10_walksFrom_X10 hown hK hP 0 rfl rfl 24 (by decide) (hts (.fieldLink RX10 49 "LuckyTicketModel" "far" "[I") (List.mem_of_getElem? (i := 1) rfl)) (fun _ h9 => h9) rfl dX10_walksFrom_96 ?_
        refine lv_iload hx hb dX10_walksFrom_99 (lv_at hl 0 rfl) ?_
        refine va_iald hx hb hK hP 2 1 rfl rfl (vp_in_b b_z_22408 (by decide) (by decide)) dX10_walksFrom_101 ?_
        refine lv_topi (fun z_22409 e_z_22409 => ?_)
        refine lv_iconst (v := (-1)) hx hb dX10_walksFrom_102 (by decide) ?_
        refine cutW (σ := Int32 × (Nat → Int32) × (Nat → Int32)) (pc2 := 146) (st2 := fun v => []) (cells2 := 0) (slots2 := 0) (fun v H locs ls => ((1 : Int) ≤ v.1.toInt ∧ v.1.toInt ≤ 20001) ∧ (wkI v.2.1 v.2.2 tk.toInt.toNat v.1.toInt.toNat) ∧ (TF v.2.1 tk.toInt.toNat v.1 z_19628) ∧ (y_14020.toInt ≤ v.1.toInt) ∧ va_P (dC, dI) vwCl [(o0, .inr (8, [.int x_th, .ref mwo, .ref mim, .ref mhi, .ref mlu, .ref mtp, .int x_td, .ref mfv, .int x_sz, .int x_at, .int x_fr, .int x_to, .int x_va, .int x_fk, .int x_fp, .ref mfr, .ref mwt, .int x_wt, .int x_op, .int x_jo, .ref mfg, .ref mpl, .long x_dr, .ref mtm, .ref mfa, .ref mqu, .ref mmo, .ref mwy, .ref mwn, .ref mma, .ref mwi, .ref mnu, .ref mmv])), (mwo, .inl (c_wo, 1875, .inl w_wo)), (mfa, .inl (c_fa, 20000, .inl v.2.1)), (mqu, .inl (c_qu, 20000, .inl v.2.2)), (mlu, .inl (c_lu, 20000, .inl w_lu))] H ∧ va_D A [(o0, .inr (8, [.int x_th, .ref mwo, .ref mim, .ref mhi, .ref mlu, .ref mtp, .int x_td, .ref mfv, .int x_sz, .int x_at, .int x_fr, .int x_to, .int x_va, .int x_fk, .int x_fp, .ref mfr, .ref mwt, .int x_wt, .int x_op, .int x_jo, .ref mfg, .ref mpl, .long x_dr, .ref mtm, .ref mfa, .ref mqu, .ref mmo, .ref mwy, .ref mwn, .ref mma, .ref mwi, .ref mnu, .ref mmv])), (mwo, .inl (c_wo, 1875, .inl w_wo)), (mfa, .inl (c_fa, 20000, .inl v.2.1)), (mqu, .inl (c_qu, 20000, .inl v.2.2)), (mlu, .inl (c_lu, 20000, .inl w_lu))] ∧ va_S A s.heap H locs ∧ lv_has ls 11 [(10, .int z_22408), (9, .int y_22180), (8, .int z_22155), (7, .int y_20188), (6, .int y_20189), (5, .int z_19628), (4, .int y_14019), (3, .int v.1), (0, .ref o0), (1, .int a1), (2, .int a2)]) (fun v H locs ls hI => ?_) (fun hj_146_22420 => ?_)
        ·
          obtain ⟨y_22418, f_22419, f_22420⟩ := v
          obtain ⟨b_y_22418, hwk, htf, hen, hP, hD, hS, hl⟩ := hI
          have b_y_22418 : (1 : Int) ≤ y_22418.toInt ∧ y_22418.toInt ≤ 20001 := b_y_22418
          have hwk : wkI f_22419 f_22420 tk.toInt.toNat y_22418.toInt.toNat := hwk
          have htf : TF f_22419 tk.toInt.toNat y_22418 z_19628 := htf
          have hen : y_14020.toInt ≤ y_22418.toInt := hen
          have hP : va_P (dC, dI) vwCl [(o0, .inr (8, [.int x_th, .ref mwo, .ref mim, .ref mhi, .ref mlu, .ref mtp, .int x_td, .ref mfv, .int x_sz, .int x_at, .int x_fr, .int x_to, .int x_va, .int x_fk, .int x_fp, .ref mfr, .ref mwt, .int x_wt, .int x_op, .int x_jo, .ref mfg, .ref mpl, .long x_dr, .ref mtm, .ref mfa, .ref mqu, .ref mmo, .ref mwy, .ref mwn, .ref mma, .ref mwi, .ref mnu, .ref mmv])), (mwo, .inl (c_wo, 1875, .inl w_wo)), (mfa, .inl (c_fa, 20000, .inl f_22419)), (mqu, .inl (c_qu, 20000, .inl f_22420)), (mlu, .inl (c_lu, 20000, .inl w_lu))] H := hP
          have hD : va_D A [(o0, .inr (8, [.int x_th, .ref mwo, .ref mim, .ref mhi, .ref mlu, .ref mtp, .int x_td, .ref mfv, .int x_sz, .int x_at, .int x_fr, .int x_to, .int x_va, .int x_fk, .int x_fp, .ref mfr, .ref mwt, .int x_wt, .int x_op, .int x_jo, .ref mfg, .ref mpl, .long x_dr, .ref mtm, .ref mfa, .ref mqu, .ref mmo, .ref mwy, .ref mwn, .ref mma, .ref mwi, .ref mnu, .ref mmv])), (mwo, .inl (c_wo, 1875, .inl w_wo)), (mfa, .inl (c_fa, 20000, .inl f_22419)), (mqu, .inl (c_qu, 20000, .inl f_22420)), (mlu, .inl (c_lu, 20000, .inl w_lu))] := hD
          have hl : lv_has ls 11 [(10, .int z_22408), (9, .int y_22180), (8, .int z_22155), (7, .int y_20188), (6, .int y_20189), (5, .int z_19628), (4, .int y_14019), (3, .int y_22418), (0, .ref o0), (1, .int a1), (2, .int a2)] := hl
          obtain ⟨z_22421, e_z_22421⟩ : ∃ y : Int32, y = y_22180 + 1 := ⟨_, rfl⟩
          refine lv_iinc (v := z_22421) (lv' := [(9, .int z_22421), (10, .int z_22408), (8, .int z_22155), (7, .int y_20188), (6, .int y_20189), (5, .int z_19628), (4, .int y_14019), (3, .int y_22418), (0, .ref o0), (1, .int a1), (2, .int a2)]) hx hb dX10_walksFrom_146 hl (k := 1) rfl (by rw [e_z_22421]; rfl) (by decide) rfl (fun ls hl => ?_)
          obtain ⟨q_z_22421, b_z_22421⟩ := ti_add (lo := 1) (hi := 16) e_z_22421 rfl (by decide : (1 : Int32).toInt = 1) b_y_22180 (by decide : (1 : Int) ≤ (1 : Int32).toInt ∧ (1 : Int32).toInt ≤ 1) (by decide)
          have hle8 := wkI_le hwk
          refine lv_goto (tgt := 74) hx hb dX10_walksFrom_149 (by decide) ?_
          exact ih_74_22379 (z_22421, y_22418, f_22419, f_22420) _ _ _ ⟨(show (0 : Int) ≤ z_22421.toInt ∧ z_22421.toInt ≤ 16 from (rg_w b_z_22421 (by decide) (by decide))), (show (1 : Int) ≤ y_22418.toInt ∧ y_22418.toInt ≤ 20000 from ⟨by omega, by omega⟩), (show wkI f_22419 f_22420 tk.toInt.toNat y_22418.toInt.toNat from (hwk)), (show TF f_22419 tk.toInt.toNat y_22418 z_19628 from (htf)), (show y_14020.toInt ≤ y_22418.toInt from (by omega)), hP, hD, hS, lv_sub hl [0, 2, 3, 4, 5, 6, 7, 8, 9, 10] rfl⟩ (show (16 - z_22421.toInt).toNat < (16 - y_22180.toInt).toNat by omega)
        ·
          refine lv_icmp_ne (tgt := 146) hx hb dX10_walksFrom_103 (by decide) (fun c_22410 => ?_) (fun c_22410 => ?_)
          ·
            have n_c_22410 : (z_22409.toInt : Int) ≠ (-1) := c_ne rfl (by decide) c_22410
            exact hj_146_22420 (y_22181, f_22182, f_22183) _ _ _ ⟨(show (1 : Int) ≤ y_22181.toInt ∧ y_22181.toInt ≤ 20001 from (rg_w b_y_22181 (by decide) (by decide))), (show wkI f_22182 f_22183 tk.toInt.toNat y_22181.toInt.toNat from (hwk)), (show TF f_22182 tk.toInt.toNat y_22181 z_19628 from (htf)), (show y_14020.toInt ≤ y_22181.toInt from (by omega)), hP, hD, hS, lv_sub hl [0, 1, 2, 3, 4, 5, 6, 7, 8, 9, 10] rfl⟩
          ·
            have n_c_22410 : (z_22409.toInt : Int) = (-1) := c_eq rfl (by decide) c_22410
            have b_z_22409 : (-1 : Int) ≤ z_22409.toInt ∧ z_22409.toInt ≤ -1 := r_eq1 (ti_rng z_22409) (by decide : (-1 : Int) ≤ ((-1) : Int32).toInt ∧ ((-1) : Int32).toInt ≤ -1) n_c_22410 (by decide)
            refine lv_aload_n hx hb dX10_walksFrom_106 rfl (lv_at hl 8 rfl) ?_
            refine lv_iload_n hx hb dX10_walksFrom_107 rfl (lv_at hl 9 rfl) ?_
            refine lv_iload hx hb dX10_walksFrom_108 (lv_at hl 0 rfl) ?_
            refine vp_callSi (W.runV (As := [.int a1, .int z_22408]) (rest := []) ⟨hx, hb, hml, hown, hts⟩ (kX10_isLucky l dC dI o0 x_th mwo mim mhi mlu mtp x_td mfv x_sz x_at x_fr x_to x_va x_fk x_fp mfr mwt x_wt x_op x_jo mfg mpl x_dr mtm mfa mqu mmo mwy mwn mma mwi mnu mmv c_wo c_lu w_wo w_lu ln bs tk lw li a1 z_22408 (rg_w b_ln (by decide) (by decide)) (rg_w b_bs (by decide) (by decide)) b_tk b_lw b_z_22408 (hw0) (hw1) (hw2) (hw3) (hw4) (hwz)) (cwV 2 hts gX10_walksFrom__X10_isLucky_V316 rfl rfl rfl hd_yX10_isLucky ⟨lel 1 1 rfl, lel 22 22 rfl⟩) ⟨pw_fb, rcv_X10 hK hP (q0 := 0) rfl, (pw_use hP hK hN [0, 1, 4] rfl [0, 3] rfl)⟩ rfl rfl hl.1 rfl (lv_room (Nat.le_of_ble_eq_true rfl)) dX10_walksFrom_110 ⟨lel 0 0 rfl, lel 0 0 rfl⟩) (fun r_22422 h_r_22422 => ?_)
            have b_r_22422 := h_r_22422
            have b_r_22422 : (0 : Int) ≤ r_22422.toInt ∧ r_22422.toInt ≤ 1 := b_r_22422
            refine lv_if_ne (tgt := 119) hx hb dX10_walksFrom_113 (by decide) (fun c_22423 => ?_) (fun c_22423 => ?_)
            ·
              have n_c_22423 : (r_22422.toInt : Int) ≠ 0 := c_ne rfl (by decide) c_22423
              have b_r_22422 : (1 : Int) ≤ r_22422.toInt ∧ r_22422.toInt ≤ 1 := r_ne1 b_r_22422 (by decide : (0 : Int) ≤ (0 : Int32).toInt ∧ (0 : Int32).toInt ≤ 0) n_c_22423 (by decide)
              refine lv_aload_n hx hb dX10_walksFrom_119 rfl (lv_at hl 8 rfl) ?_
              refine va_get (D := (dC, dI)) (ci := 8) (v := .ref mfa) (C := RX10) (T := TX10) (N := 33) hx hb hts iX10_walksFrom_X10 hown hK hP 0 rfl rfl 24 (by decide) (hts (.fieldLink RX10 49 "LuckyTicketModel" "far" "[I") (List.mem_of_getElem? (i := 1) rfl)) (fun _ h9 => h9) rfl dX10_walksFrom_120 ?_
              refine lv_iload hx hb dX10_walksFrom_123 (lv_at hl 0 rfl) ?_
              refine lv_aload_n hx hb dX10_walksFrom_125 rfl (lv_at hl 8 rfl) ?_
              refine va_get (D := (dC, dI)) (ci := 8) (v := .ref mfa) (C := RX10) (T := TX10) (N := 33) hx hb hts iX10_walksFrom_X10 hown hK hP 0 rfl rfl 24 (by decide) (hts (.fieldLink RX10 49 "LuckyTicketModel" "far" "[I") (List.mem_of_getElem? (i := 1) rfl)) (fun _ h9 => h9) rfl dX10_walksFrom_126 ?_
              refine lv_iload hx hb dX10_walksFrom_129 (lv_at hl 5 rfl) ?_
              refine va_iald hx hb hK hP 2 1 rfl rfl (vp_in_b b_z_19628 (by decide) (by decide)) dX10_walksFrom_131 ?_
              refine lv_topi (fun z_22424 e_z_22424 => ?_)
              have hv_z_22424 := htf.v e_z_22424
              have hlt9 := wkI_lt hwk (show z_22408.toInt.toNat < tk.toInt.toNat from by omega) (e_z_22409.symm.trans c_22410)
              have hle9 := wkI_le hwk
              have b_z_22424 : (0 : Int) ≤ z_22424.toInt ∧ z_22424.toInt ≤ 20000 := ⟨hv_z_22424.1, by omega⟩
              refine lv_iconst (v := 1) hx hb dX10_walksFrom_132 (by decide) ?_
              refine lv_iadd hx hb dX10_walksFrom_133 ?_
              refine lv_topi (fun z_22425 e_z_22425 => ?_)
              obtain ⟨q_z_22425, b_z_22425⟩ := ti_add (lo := 1) (hi := 20001) e_z_22425 rfl (by decide : (1 : Int32).toInt = 1) b_z_22424 (by decide : (1 : Int) ≤ (1 : Int32).toInt ∧ (1 : Int32).toInt ≤ 1) (by decide)
              refine va_iast hx hb hK hP hD hS 2 1 rfl rfl (vp_in_b b_z_22408 (by decide) (by decide)) dX10_walksFrom_134 (fun H locs hP hD hS => ?_)
              have hP : va_P (dC, dI) vwCl [(o0, .inr (8, [.int x_th, .ref mwo, .ref mim, .ref mhi, .ref mlu, .ref mtp, .int x_td, .ref mfv, .int x_sz, .int x_at, .int x_fr, .int x_to, .int x_va, .int x_fk, .int x_fp, .ref mfr, .ref mwt, .int x_wt, .int x_op, .int x_jo, .ref mfg, .ref mpl, .long x_dr, .ref mtm, .ref mfa, .ref mqu, .ref mmo, .ref mwy, .ref mwn, .ref mma, .ref mwi, .ref mnu, .ref mmv])), (mwo, .inl (c_wo, 1875, .inl w_wo)), (mfa, .inl (c_fa, 20000, .inl (upd f_22182 (z_22408 : Int32).toNatClampNeg z_22425))), (mqu, .inl (c_qu, 20000, .inl f_22183)), (mlu, .inl (c_lu, 20000, .inl w_lu))] H := hP
              have hD : va_D A [(o0, .inr (8, [.int x_th, .ref mwo, .ref mim, .ref mhi, .ref mlu, .ref mtp, .int x_td, .ref mfv, .int x_sz, .int x_at, .int x_fr, .int x_to, .int x_va, .int x_fk, .int x_fp, .ref mfr, .ref mwt, .int x_wt, .int x_op, .int x_jo, .ref mfg, .ref mpl, .long x_dr, .ref mtm, .ref mfa, .ref mqu, .ref mmo, .ref mwy, .ref mwn, .ref mma, .ref mwi, .ref mnu, .ref mmv])), (mwo, .inl (c_wo, 1875, .inl w_wo)), (mfa, .inl (c_fa, 20000, .inl (upd f_22182 (z_22408 : Int32).toNatClampNeg z_22425))), (mqu, .inl (c_qu, 20000, .inl f_22183)), (mlu, .inl (c_lu, 20000, .inl w_lu))] := hD
              generalize ef_f_22426 : (upd f_22182 (z_22408 : Int32).toNatClampNeg z_22425) = f_22426 at hP hD
              have hP : va_P (dC, dI) vwCl [(o0, .inr (8, [.int x_th, .ref mwo, .ref mim, .ref mhi, .ref mlu, .ref mtp, .int x_td, .ref mfv, .int x_sz, .int x_at, .int x_fr, .int x_to, .int x_va, .int x_fk, .int x_fp, .ref mfr, .ref mwt, .int x_wt, .int x_op, .int x_jo, .ref mfg, .ref mpl, .long x_dr, .ref mtm, .ref mfa, .ref mqu, .ref mmo, .ref mwy, .ref mwn, .ref mma, .ref mwi, .ref mnu, .ref mmv])), (mwo, .inl (c_wo, 1875, .inl w_wo)), (mfa, .inl (c_fa, 20000, .inl f_22426)), (mqu, .inl (c_qu, 20000, .inl f_22183)), (mlu, .inl (c_lu, 20000, .inl w_lu))] H := hP
              have hD : va_D A [(o0, .inr (8, [.int x_th, .ref mwo, .ref mim, .ref mhi, .ref mlu, .ref mtp, .int x_td, .ref mfv, .int x_sz, .int x_at, .int x_fr, .int x_to, .int x_va, .int x_fk, .int x_fp, .ref mfr, .ref mwt, .int x_wt, .int x_op, .int x_jo, .ref mfg, .ref mpl, .long x_dr, .ref mtm, .ref mfa, .ref mqu, .ref mmo, .ref mwy, .ref mwn, .ref mma, .ref mwi, .ref mnu, .ref mmv])), (mwo, .inl (c_wo, 1875, .inl w_wo)), (mfa, .inl (c_fa, 20000, .inl f_22426)), (mqu, .inl (c_qu, 20000, .inl f_22183)), (mlu, .inl (c_lu, 20000, .inl w_lu))] := hD
              refine lv_aload_n hx hb dX10_walksFrom_135 rfl (lv_at hl 8 rfl) ?_
              refine va_get (D := (dC, dI)) (ci := 8) (v := .ref mqu) (C := RX10) (T := TX10) (N := 33) hx hb hts iX10_walksFrom_X10 hown hK hP 0 rfl rfl 25 (by decide) (hts (.fieldLink RX10 52 "LuckyTicketModel" "queue" "[I") (List.mem_of_getElem? (i := 2) rfl)) (fun _ h9 => h9) rfl dX10_walksFrom_136 ?_
              refine lv_iload_n hx hb dX10_walksFrom_139 rfl (lv_at hl 7 rfl) ?_
              refine lv_iload hx hb dX10_walksFrom_140 (lv_at hl 0 rfl) ?_
              refine va_iast hx hb hK hP hD hS 3 2 rfl rfl (vp_in_iff.mpr ⟨by omega, by omega⟩) dX10_walksFrom_142 (fun H locs hP hD hS => ?_)
              have hP : va_P (dC, dI) vwCl [(o0, .inr (8, [.int x_th, .ref mwo, .ref mim, .ref mhi, .ref mlu, .ref mtp, .int x_td, .ref mfv, .int x_sz, .int x_at, .int x_fr, .int x_to, .int x_va, .int x_fk, .int x_fp, .ref mfr, .ref mwt, .int x_wt, .int x_op, .int x_jo, .ref mfg, .ref mpl, .long x_dr, .ref mtm, .ref mfa, .ref mqu, .ref mmo, .ref mwy, .ref mwn, .ref mma, .ref mwi, .ref mnu, .ref mmv])), (mwo, .inl (c_wo, 1875, .inl w_wo)), (mfa, .inl (c_fa, 20000, .inl f_22426)), (mqu, .inl (c_qu, 20000, .inl (upd f_22183 (y_22181 : Int32).toNatClampNeg z_22408))), (mlu, .inl (c_lu, 20000, .inl w_lu))] H := hP
              have hD : va_D A [(o0, .inr (8, [.int x_th, .ref mwo, .ref mim, .ref mhi, .ref mlu, .ref mtp, .int x_td, .ref mfv, .int x_sz, .int x_at, .int x_fr, .int x_to, .int x_va, .int x_fk, .int x_fp, .ref mfr, .ref mwt, .int x_wt, .int x_op, .int x_jo, .ref mfg, .ref mpl, .long x_dr, .ref mtm, .ref mfa, .ref mqu, .ref mmo, .ref mwy, .ref mwn, .ref mma, .ref mwi, .ref mnu, .ref mmv])), (mwo, .inl (c_wo, 1875, .inl w_wo)), (mfa, .inl (c_fa, 20000, .inl f_22426)), (mqu, .inl (c_qu, 20000, .inl (upd f_22183 (y_22181 : Int32).toNatClampNeg z_22408))), (mlu, .inl (c_lu, 20000, .inl w_lu))] := hD
              generalize ef_f_22427 : (upd f_22183 (y_22181 : Int32).toNatClampNeg z_22408) = f_22427 at hP hD
              have hP : va_P (dC, dI) vwCl [(o0, .inr (8, [.int x_th, .ref mwo, .ref mim, .ref mhi, .ref mlu, .ref mtp, .int x_td, .ref mfv, .int x_sz, .int x_at, .int x_fr, .int x_to, .int x_va, .int x_fk, .int x_fp, .ref mfr, .ref mwt, .int x_wt, .int x_op, .int x_jo, .ref mfg, .ref mpl, .long x_dr, .ref mtm, .ref mfa, .ref mqu, .ref mmo, .ref mwy, .ref mwn, .ref mma, .ref mwi, .ref mnu, .ref mmv])), (mwo, .inl (c_wo, 1875, .inl w_wo)), (mfa, .inl (c_fa, 20000, .inl f_22426)), (mqu, .inl (c_qu, 20000, .inl f_22427)), (mlu, .inl (c_lu, 20000, .inl w_lu))] H := hP
              have hD : va_D A [(o0, .inr (8, [.int x_th, .ref mwo, .ref mim, .ref mhi, .ref mlu, .ref mtp, .int x_td, .ref mfv, .int x_sz, .int x_at, .int x_fr, .int x_to, .int x_va, .int x_fk, .int x_fp, .ref mfr, .ref mwt, .int x_wt, .int x_op, .int x_jo, .ref mfg, .ref mpl, .long x_dr, .ref mtm, .ref mfa, .ref mqu, .ref mmo, .ref mwy, .ref mwn, .ref mma, .ref mwi, .ref mnu, .ref mmv])), (mwo, .inl (c_wo, 1875, .inl w_wo)), (mfa, .inl (c_fa, 20000, .inl f_22426)), (mqu, .inl (c_qu, 20000, .inl f_22427)), (mlu, .inl (c_lu, 20000, .inl w_lu))] := hD
              obtain ⟨z_22428, e_z_22428⟩ : ∃ y : Int32, y = y_22181 + 1 := ⟨_, rfl⟩
              refine lv_iinc (v := z_22428) (lv' := [(3, .int z_22428), (10, .int z_22408), (9, .int y_22180), (8, .int z_22155), (7, .int y_20188), (6, .int y_20189), (5, .int z_19628), (4, .int y_14019), (0, .ref o0), (1, .int a1), (2, .int a2)]) hx hb dX10_walksFrom_143 hl (k := 7) rfl (by rw [e_z_22428]; rfl) (by decide) rfl (fun ls hl => ?_)
              obtain ⟨q_z_22428, b_z_22428⟩ := ti_add (lo := 2) (hi := 20001) e_z_22428 rfl (by decide : (1 : Int32).toInt = 1) b_y_22181 (by decide : (1 : Int) ≤ (1 : Int32).toInt ∧ (1 : Int32).toInt ≤ 1) (by decide)
              exact hj_146_22420 (z_22428, f_22426, f_22427) _ _ _ ⟨(show (1 : Int) ≤ z_22428.toInt ∧ z_22428.toInt ≤ 20001 from (rg_w b_z_22428 (by decide) (by decide))), (show wkI f_22426 f_22427 tk.toInt.toNat z_22428.toInt.toNat from (wk_push hwk (by omega) hto.1 (by omega) (e_z_22409.symm.trans c_22410) (by omega) (by omega) ef_f_22426 ef_f_22427 (by omega))), (show TF f_22426 tk.toInt.toNat z_22428 z_19628 from (wk_keep htf (e_z_22409.symm.trans c_22410) ef_f_22426 (by omega))), (show y_14020.toInt ≤ z_22428.toInt from (by omega)), hP, hD, hS, lv_sub hl [1, 2, 3, 4, 5, 6, 7, 0, 8, 9, 10] rfl⟩
            ·
              have n_c_22423 : (r_22422.toInt : Int) = 0 := c_eq rfl (by decide) c_22423
              have b_r_22422 : (0 : Int) ≤ r_22422.toInt ∧ r_22422.toInt ≤ 0 := r_eq1 b_r_22422 (by decide : (0 : Int) ≤ (0 : Int32).toInt ∧ (0 : Int32).toInt ≤ 0) n_c_22423 (by decide)
              refine lv_goto (tgt := 146) hx hb dX10_walksFrom_116 (by decide) ?_
              exact hj_146_22420 (y_22181, f_22182, f_22183) _ _ _ ⟨(show (1 : Int) ≤ y_22181.toInt ∧ y_22181.toInt ≤ 20001 from (rg_w b_y_22181 (by decide) (by decide))), (show wkI f_22182 f_22183 tk.toInt.toNat y_22181.toInt.toNat from (hwk)), (show TF f_22182 tk.toInt.toNat y_22181 z_19628 from (htf)), (show y_14020.toInt ≤ y_22181.toInt from (by omega)), hP, hD, hS, lv_sub hl [0, 1, 2, 3, 4, 5, 6, 7, 8, 9, 10] rfl⟩
theorem dX10_walk_0 : decode cX10_walk 0 = .ok (.aload_n 0, 1) := by decide +kernel
theorem dX10_walk_1 : decode cX10_walk 1 = .ok (.iload_n 1, 1) := by decide +kernel
theorem dX10_walk_2 : decode cX10_walk 2 = .ok (.iload_n 2, 1) := by decide +kernel
theorem dX10_walk_3 : decode cX10_walk 3 = .ok (.invokevirtual 313, 3) := by decide +kernel
theorem dX10_walk_6 : decode cX10_walk 6 = .ok (.ifCond .eq 12, 3) := by decide +kernel
theorem dX10_walk_9 : decode cX10_walk 9 = .ok (.aload_n 0, 1) := by decide +kernel
theorem dX10_walk_10 : decode cX10_walk 10 = .ok (.iload_n 3, 1) := by decide +kernel
theorem dX10_walk_11 : decode cX10_walk 11 = .ok (.i2l, 1) := by decide +kernel
theorem dX10_walk_12 : decode cX10_walk 12 = .ok (.invokevirtual 93, 3) := by decide +kernel
theorem dX10_walk_15 : decode cX10_walk 15 = .ok (.ifCond .ne 6, 3) := by decide +kernel
theorem dX10_walk_18 : decode cX10_walk 18 = .ok (.bipush (-2), 2) := by decide +kernel
theorem dX10_walk_20 : decode cX10_walk 20 = .ok (.ireturn, 1) := by decide +kernel
theorem dX10_walk_21 : decode cX10_walk 21 = .ok (.aload_n 0, 1) := by decide +kernel
theorem dX10_walk_22 : decode cX10_walk 22 = .ok (.iload_n 1, 1) := by decide +kernel
theorem dX10_walk_23 : decode cX10_walk 23 = .ok (.iload_n 2, 1) := by decide +kernel
theorem dX10_walk_24 : decode cX10_walk 24 = .ok (.invokevirtual 316, 3) := by decide +kernel
theorem dX10_walk_27 : decode cX10_walk 27 = .ok (.ifCond .ne 5, 3) := by decide +kernel
theorem dX10_walk_30 : decode cX10_walk 30 = .ok (.iconst (-1), 1) := by decide +kernel
theorem dX10_walk_31 : decode cX10_walk 31 = .ok (.ireturn, 1) := by decide +kernel
theorem dX10_walk_32 : decode cX10_walk 32 = .ok (.aload_n 0, 1) := by decide +kernel
theorem dX10_walk_33 : decode cX10_walk 33 = .ok (.invokevirtual 436, 3) := by decide +kernel
theorem dX10_walk_36 : decode cX10_walk 36 = .ok (.aload_n 0, 1) := by decide +kernel
theorem dX10_walk_37 : decode cX10_walk 37 = .ok (.iload_n 1, 1) := by decide +kernel
theorem dX10_walk_38 : decode cX10_walk 38 = .ok (.iload_n 2, 1) := by decide +kernel
theorem dX10_walk_39 : decode cX10_walk 39 = .ok (.invokevirtual 439, 3) := by decide +kernel
theorem dX10_walk_42 : decode cX10_walk 42 = .ok (.pop, 1) := by decide +kernel
theorem dX10_walk_43 : decode cX10_walk 43 = .ok (.aload_n 0, 1) := by decide +kernel
theorem dX10_walk_44 : decode cX10_walk 44 = .ok (.getfield 49, 3) := by decide +kernel
theorem dX10_walk_47 : decode cX10_walk 47 = .ok (.iload_n 3, 1) := by decide +kernel
theorem dX10_walk_48 : decode cX10_walk 48 = .ok (.iaload, 1) := by decide +kernel
theorem dX10_walk_49 : decode cX10_walk 49 = .ok (.ireturn, 1) := by decide +kernel
theorem hd_yX10_walk : yX10_walk.cls = RX10 ∧ yX10_walk.cls ≠ "java/lang/invoke/MethodHandle" ∧ yX10_walk.cls ≠ "java/lang/invoke/VarHandle" ∧ (parseMethodDescriptor yX10_walk.desc).map (fun d => d.parameters.length) = some 3 := by decide +kernel
def uX10_walk : List Cond := List.cons (.code yX10_walk cX10_walk 4 (some .int)) (HAppend.hAppend ([.methodLink RX10 313 yX10_isBoth, .instanceMethod yX10_isBoth, .selects RX10 yX10_isBoth yX10_isBoth, .initialized RX10, .methodLink RX10 93 yX10_isTicket, .instanceMethod yX10_isTicket, .selects RX10 yX10_isTicket yX10_isTicket, .methodLink RX10 316 yX10_isLucky, .instanceMethod yX10_isLucky, .selects RX10 yX10_isLucky yX10_isLucky, .methodLink RX10 436 yX10_nowhere, .instanceMethod yX10_nowhere, .selects RX10 yX10_nowhere yX10_nowhere, .methodLink RX10 439 yX10_walksFrom, .instanceMethod yX10_walksFrom, .selects RX10 yX10_walksFrom yX10_walksFrom, .fieldLink RX10 49 "LuckyTicketModel" "far" "[I"] : List Cond) (HAppend.hAppend uX10_isBoth (HAppend.hAppend uX10_isTicket (HAppend.hAppend uX10_isLucky (HAppend.hAppend uX10_nowhereF (HAppend.hAppend uX10_walksFrom wsX100))))))
theorem iX10_walk_X10 : ∀ w ∈ wsX100, w ∈ uX10_walk := fun _ h => (List.mem_cons_of_mem _ (List.mem_append_right _ (List.mem_append_right _ (List.mem_append_right _ (List.mem_append_right _ (List.mem_append_right _ (List.mem_append_right _ h)))))))
theorem guX10_walk : GU uX10_walk := gu_cons (gu_app (by decide +kernel) (gu_ap guX10_isBoth (gu_ap guX10_isTicket (gu_ap guX10_isLucky (gu_ap guX10_nowhereF (gu_ap guX10_walksFrom gws_X10))))))
theorem gX10_walk__X10_isBoth_V313 : GoodIn uX10_walk (wsV RX10 313 RX10 yX10_isBoth uX10_isBoth) := gin_V (List.mem_of_getElem? (i := 1) rfl) (List.mem_of_getElem? (i := 2) rfl) (List.mem_of_getElem? (i := 3) rfl) (List.mem_of_getElem? (i := 4) rfl) (fun _ h => (List.mem_cons_of_mem _ (List.mem_append_right _ (List.mem_append_left _ h)))) guX10_isBoth
theorem gX10_walk__X10_isTicket_V93 : GoodIn uX10_walk (wsV RX10 93 RX10 yX10_isTicket uX10_isTicket) := gin_V (List.mem_of_getElem? (i := 5) rfl) (List.mem_of_getElem? (i := 6) rfl) (List.mem_of_getElem? (i := 7) rfl) (List.mem_of_getElem? (i := 4) rfl) (fun _ h => (List.mem_cons_of_mem _ (List.mem_append_right _ (List.mem_append_right _ (List.mem_append_left _ h))))) guX10_isTicket
theorem gX10_walk__X10_isLucky_V316 : GoodIn uX10_walk (wsV RX10 316 RX10 yX10_isLucky uX10_isLucky) := gin_V (List.mem_of_getElem? (i := 8) rfl) (List.mem_of_getElem? (i := 9) rfl) (List.mem_of_getElem? (i := 10) rfl) (List.mem_of_getElem? (i := 4) rfl) (fun _ h => (List.mem_cons_of_mem _ (List.mem_append_right _ (List.mem_append_right _ (List.mem_append_right _ (List.mem_append_left _ h)))))) guX10_isLucky
theorem gX10_walk__X10_nowhereF_V436 : GoodIn uX10_walk (wsV RX10 436 RX10 yX10_nowhere uX10_nowhereF) := gin_V (List.mem_of_getElem? (i := 11) rfl) (List.mem_of_getElem? (i := 12) rfl) (List.mem_of_getElem? (i := 13) rfl) (List.mem_of_getElem? (i := 4) rfl) (fun _ h => (List.mem_cons_of_mem _ (List.mem_append_right _ (List.mem_append_right _ (List.mem_append_right _ (List.mem_append_right _ (List.mem_append_left _ h))))))) guX10_nowhereF
theorem gX10_walk__X10_walksFrom_V439 : GoodIn uX10_walk (wsV RX10 439 RX10 yX10_walksFrom uX10_walksFrom) := gin_V (List.mem_of_getElem? (i := 14) rfl) (List.mem_of_getElem? (i := 15) rfl) (List.mem_of_getElem? (i := 16) rfl) (List.mem_of_getElem? (i := 4) rfl) (fun _ h => (List.mem_cons_of_mem _ (List.mem_append_right _ (List.mem_append_right _ (List.mem_append_right _ (List.mem_append_right _ (List.mem_append_right _ (List.mem_append_left _ h)))))))) guX10_walksFrom
set_option maxHeartbeats 4000000 in
set_option maxRecDepth 100000 in
theorem kX10_walk (l : Launch) (dC : Nat → ClassId) (dI : Nat → Nat → Nat) (o0 : Nat) (x_th : Int32) (mwo : Nat) (mim : Nat) (mhi : Nat) (mlu : Nat) (mtp : Nat) (x_td : Int32) (mfv : Nat) (x_sz : Int32) (x_at : Int32) (x_fr : Int32) (x_to : Int32) (x_va : Int32) (x_fk : Int32) (x_fp : Int32) (mfr : Nat) (mwt : Nat) (x_wt : Int32) (x_op : Int32) (x_jo : Int32) (mfg : Nat) (mpl : Nat) (x_dr : Int64) (mtm : Nat) (mfa : Nat) (mqu : Nat) (mmo : Nat) (mwy : Nat) (mwn : Nat) (mma : Nat) (mwi : Nat) (mnu : Nat) (mmv : Nat) (c_wo : ClassId) (c_lu : ClassId) (c_fa : ClassId) (c_qu : ClassId) (w_wo : Nat → Int32) (w_lu : Nat → Int32) (w_fa : Nat → Int32) (w_qu : Nat → Int32) (ln : Int32) (bs : Int32) (tk : Int32) (lw : Int32) (li : Int32) (a1 : Int32) (a2 : Int32) (a3 : Int32) (sz : Nat) (b_ln : (0 : Int) ≤ ln.toInt ∧ ln.toInt ≤ 12) (b_bs : (0 : Int) ≤ bs.toInt ∧ bs.toInt ≤ 16) (b_tk : (0 : Int) ≤ tk.toInt ∧ tk.toInt ≤ 20000) (b_lw : (0 : Int) ≤ lw.toInt ∧ lw.toInt ≤ 9) (hw0 : w_wo 0 = ln) (hw1 : w_wo 1 = bs) (hw2 : w_wo 2 = tk) (hw3 : w_wo 3 = lw) (hw4 : w_wo 4 = li) (hwz : (ln.toInt = 0 ∧ bs.toInt = 0 ∧ tk.toInt = 0 ∧ lw.toInt = 0) ∨ (1 ≤ ln.toInt ∧ 2 ≤ bs.toInt ∧ 1 ≤ tk.toInt)) (htp : tk.toInt = 0 ∨ tk.toInt = ((bs.toInt.toNat ^ ln.toInt.toNat : Nat) : Int)) : Met l yX10_walk uX10_walk ({ frames := 3, cells := 0, slots := 0, locals := 69 }) (va_Pc [.ref o0, .int a1, .int a2, .int a3] (hw (dC, dI) vwCl [(o0, .inr (8, [.int x_th, .ref mwo, .ref mim, .ref mhi, .ref mlu, .ref mtp, .int x_td, .ref mfv, .int x_sz, .int x_at, .int x_fr, .int x_to, .int x_va, .int x_fk, .int x_fp, .ref mfr, .ref mwt, .int x_wt, .int x_op, .int x_jo, .ref mfg, .ref mpl, .long x_dr, .ref mtm, .ref mfa, .ref mqu, .ref mmo, .ref mwy, .ref mwn, .ref mma, .ref mwi, .ref mnu, .ref mmv])), (mwo, .inl (c_wo, 1875, .inl w_wo)), (mlu, .inl (c_lu, 20000, .inl w_lu)), (mfa, .inl (c_fa, 20000, .inl w_fa)), (mqu, .inl (c_qu, 20000, .inl w_qu))] [(c_wo, .int), (c_lu, .int), (c_fa, .int), (c_qu, .int)] sz)) (va_Qi (fun (r : Int32) (_ : Unit) => True) (fun (_ : Unit) t => ∃ (o0_ : Nat → Int32) (o1_ : Nat → Int32), va_P (dC, dI) vwCl [(o0, .inr (8, [.int x_th, .ref mwo, .ref mim, .ref mhi, .ref mlu, .ref mtp, .int x_td, .ref mfv, .int x_sz, .int x_at, .int x_fr, .int x_to, .int x_va, .int x_fk, .int x_fp, .ref mfr, .ref mwt, .int x_wt, .int x_op, .int x_jo, .ref mfg, .ref mpl, .long x_dr, .ref mtm, .ref mfa, .ref mqu, .ref mmo, .ref mwy, .ref mwn, .ref mma, .ref mwi, .ref mnu, .ref mmv])), (mwo, .inl (c_wo, 1875, .inl w_wo)), (mlu, .inl (c_lu, 20000, .inl w_lu)), (mfa, .inl (c_fa, 20000, .inl o0_)), (mqu, .inl (c_qu, 20000, .inl o1_))] t.heap ∧ va_K (dC, dI) vwCl [(c_wo, .int), (c_lu, .int), (c_fa, .int), (c_qu, .int)] t ∧ va_D (va_A [(o0, .inr (8, [.int x_th, .ref mwo, .ref mim, .ref mhi, .ref mlu, .ref mtp, .int x_td, .ref mfv, .int x_sz, .int x_at, .int x_fr, .int x_to, .int x_va, .int x_fk, .int x_fp, .ref mfr, .ref mwt, .int x_wt, .int x_op, .int x_jo, .ref mfg, .ref mpl, .long x_dr, .ref mtm, .ref mfa, .ref mqu, .ref mmo, .ref mwy, .ref mwn, .ref mma, .ref mwi, .ref mnu, .ref mmv])), (mwo, .inl (c_wo, 1875, .inl w_wo)), (mlu, .inl (c_lu, 20000, .inl w_lu)), (mfa, .inl (c_fa, 20000, .inl w_fa)), (mqu, .inl (c_qu, 20000, .inl w_qu))] sz) [(o0, .inr (8, [.int x_th, .ref mwo, .ref mim, .ref mhi, .ref mlu, .ref mtp, .int x_td, .ref mfv, .int x_sz, .int x_at, .int x_fr, .int x_to, .int x_va, .int x_fk, .int x_fp, .ref mfr, .ref mwt, .int x_wt, .int x_op, .int x_jo, .ref mfg, .ref mpl, .long x_dr, .ref mtm, .ref mfa, .ref mqu, .ref mmo, .ref mwy, .ref mwn, .ref mma, .ref mwi, .ref mnu, .ref mmv])), (mwo, .inl (c_wo, 1875, .inl w_wo)), (mlu, .inl (c_lu, 20000, .inl w_lu)), (mfa, .inl (c_fa, 20000, .inl o0_)), (mqu, .inl (c_qu, 20000, .inl o1_))]) (va_A [(o0, .inr (8, [.int x_th, .ref mwo, .ref mim, .ref mhi, .ref mlu, .ref mtp, .int x_td, .ref mfv, .int x_sz, .int x_at, .int x_fr, .int x_to, .int x_va, .int x_fk, .int x_fp, .ref mfr, .ref mwt, .int x_wt, .int x_op, .int x_jo, .ref mfg, .ref mpl, .long x_dr, .ref mtm, .ref mfa, .ref mqu, .ref mmo, .ref mwy, .ref mwn, .ref mma, .ref mwi, .ref mnu, .ref mmv])), (mwo, .inl (c_wo, 1875, .inl w_wo)), (mlu, .inl (c_lu, 20000, .inl w_lu)), (mfa, .inl (c_fa, 20000, .inl w_fa)), (mqu, .inl (c_qu, 20000, .inl w_qu))] sz)) 0 0 (va_A [(o0, .inr (8, [.int x_th, .ref mwo, .ref mim, .ref mhi, .ref mlu, .ref mtp, .int x_td, .ref mfv, .int x_sz, .int x_at, .int x_fr, .int x_to, .int x_va, .int x_fk, .int x_fp, .ref mfr, .ref mwt, .int x_wt, .int x_op, .int x_jo, .ref mfg, .ref mpl, .long x_dr, .ref mtm, .ref mfa, .ref mqu, .ref mmo, .ref mwy, .ref mwn, .ref mma, .ref mwi, .ref mnu, .ref mmv])), (mwo, .inl (c_wo, 1875, .inl w_wo)), (mlu, .inl (c_lu, 20000, .inl w_lu)), (mfa, .inl (c_fa, 20000, .inl w_fa)), (mqu, .inl (c_qu, 20000, .inl w_qu))] sz) := by
  refine Met.ofW (cc := cX10_walk) (maxL := 4) (ret := (some .int)) pn_X10 rfl ?_
  intro p e s m args below meth c s₁ B hml hv
  obtain ⟨rfl, hsz, hP, hK, hD0, hN⟩ := hv
  have hx := B.exec
  have hb := B.bytes
  have hr := B.returns
  have hts := atoms_spec (ws := uX10_walk) B.pre
  have hown : s.vm.findClass RX10 = some m.cls := hown_of B.named rfl
  have hlocks := B.notSynchronized
  subst hsz
  have hD := hD0.self (sz := s.heap.size)
  generalize hAe : va_A [(o0, .inr (8, [.int x_th, .ref mwo, .ref mim, .ref mhi, .ref mlu, .ref mtp, .int x_td, .ref mfv, .int x_sz, .int x_at, .int x_fr, .int x_to, .int x_va, .int x_fk, .int x_fp, .ref mfr, .ref mwt, .int x_wt, .int x_op, .int x_jo, .ref mfg, .ref mpl, .long x_dr, .ref mtm, .ref mfa, .ref mqu, .ref mmo, .ref mwy, .ref mwn, .ref mma, .ref mwi, .ref mnu, .ref mmv])), (mwo, .inl (c_wo, 1875, .inl w_wo)), (mlu, .inl (c_lu, 20000, .inl w_lu)), (mfa, .inl (c_fa, 20000, .inl w_fa)), (mqu, .inl (c_qu, 20000, .inl w_qu))] s.heap.size = A at hD ⊢
  have hA : ∀ q : Nat, s.heap.size ≤ q → A q := fun q h => by rw [← hAe]; exact Or.inr h
  have hS : va_S A s.heap s.heap [] := va_S.rf
  have hP : va_P (dC, dI) vwCl [(o0, .inr (8, [.int x_th, .ref mwo, .ref mim, .ref mhi, .ref mlu, .ref mtp, .int x_td, .ref mfv, .int x_sz, .int x_at, .int x_fr, .int x_to, .int x_va, .int x_fk, .int x_fp, .ref mfr, .ref mwt, .int x_wt, .int x_op, .int x_jo, .ref mfg, .ref mpl, .long x_dr, .ref mtm, .ref mfa, .ref mqu, .ref mmo, .ref mwy, .ref mwn, .ref mma, .ref mwi, .ref mnu, .ref mmv])), (mwo, .inl (c_wo, 1875, .inl w_wo)), (mlu, .inl (c_lu, 20000, .inl w_lu)), (mfa, .inl (c_fa, 20000, .inl w_fa)), (mqu, .inl (c_qu, 20000, .inl w_qu))] s.heap := hP
  have hl := lv_entry ([.ref o0, .int a1, .int a2, .int a3]) (n := 4) (Nat.le_of_ble_eq_true rfl)
  rw [lg_entry_eq]
  generalize (lg_sl ([.ref o0, .int a1, .int a2, .int a3]) ++ List.replicate (4 - (lg_sl ([.ref o0, .int a1, .int a2, .int a3])).length) Slot.unset).toArray = ls at hl ⊢
  have hl : lv_has ls 4 [(0, .ref o0), (1, .int a1), (2, .int a2), (3, .int a3)] := hl
  refine lv_aload_n hx hb dX10_walk_0 rfl (lv_at hl 0 rfl) ?_
  refine lv_iload_n hx hb dX10_walk_1 rfl (lv_at hl 1 rfl) ?_
  refine lv_iload_n hx hb dX10_walk_2 rfl (lv_at hl 2 rfl) ?_
  refine vp_callSi (W.runV (As := [.int a1, .int a2]) (rest := []) ⟨hx, hb, hml, hown, hts⟩ (kX10_isBoth l dC dI o0 x_th mwo mim mhi mlu mtp x_td mfv x_sz x_at x_fr x_to x_va x_fk x_fp mfr mwt x_wt x_op x_jo mfg mpl x_dr mtm mfa mqu mmo mwy mwn mma mwi mnu mmv c_wo w_wo ln bs tk lw li a1 a2 b_ln b_bs b_tk b_lw (hw0) (hw1) (hw2) (hw3) (hw4) (hwz)) (cwV 2 hts gX10_walk__X10_isBoth_V313 rfl rfl rfl hd_yX10_isBoth ⟨lel 3 3 rfl, lel 69 69 rfl⟩) ⟨pw_fb, rcv_X10 hK hP (q0 := 0) rfl, (pw_use hP hK hN [0, 1] rfl [0] rfl)⟩ rfl rfl hl.1 rfl (lv_room (Nat.le_of_ble_eq_true rfl)) dX10_walk_3 ⟨lel 0 0 rfl, lel 0 0 rfl⟩) (fun r_19 h_r_19 => ?_)
  obtain ⟨b_r_19, nz_r_19⟩ := h_r_19
  have b_r_19 : (0 : Int) ≤ r_19.toInt ∧ r_19.toInt ≤ 1 := b_r_19
  refine lv_if_eq (tgt := 18) hx hb dX10_walk_6 (by decide) (fun c_20 => ?_) (fun c_20 => ?_)
  ·
    have n_c_20 : (r_19.toInt : Int) = 0 := c_eq rfl (by decide) c_20
    have b_r_19 : (0 : Int) ≤ r_19.toInt ∧ r_19.toInt ≤ 0 := r_eq1 b_r_19 (by decide : (0 : Int) ≤ (0 : Int32).toInt ∧ (0 : Int32).toInt ≤ 0) n_c_20 (by decide)
    refine lv_bipush (v := (-2)) hx hb dX10_walk_18 (by decide) ?_
    have hP9 := hP.sub (ws' := [(o0, .inr (8, [.int x_th, .ref mwo, .ref mim, .ref mhi, .ref mlu, .ref mtp, .int x_td, .ref mfv, .int x_sz, .int x_at, .int x_fr, .int x_to, .int x_va, .int x_fk, .int x_fp, .ref mfr, .ref mwt, .int x_wt, .int x_op, .int x_jo, .ref mfg, .ref mpl, .long x_dr, .ref mtm, .ref mfa, .ref mqu, .ref mmo, .ref mwy, .ref mwn, .ref mma, .ref mwi, .ref mnu, .ref mmv])), (mwo, .inl (c_wo, 1875, .inl w_wo)), (mlu, .inl (c_lu, 20000, .inl w_lu)), (mfa, .inl (c_fa, 20000, .inl w_fa)), (mqu, .inl (c_qu, 20000, .inl w_qu))]) [0, 1, 2, 3, 4] rfl
    have hD9 := hD.sub (ws' := [(o0, .inr (8, [.int x_th, .ref mwo, .ref mim, .ref mhi, .ref mlu, .ref mtp, .int x_td, .ref mfv, .int x_sz, .int x_at, .int x_fr, .int x_to, .int x_va, .int x_fk, .int x_fp, .ref mfr, .ref mwt, .int x_wt, .int x_op, .int x_jo, .ref mfg, .ref mpl, .long x_dr, .ref mtm, .ref mfa, .ref mqu, .ref mmo, .ref mwy, .ref mwn, .ref mma, .ref mwi, .ref mnu, .ref mmv])), (mwo, .inl (c_wo, 1875, .inl w_wo)), (mlu, .inl (c_lu, 20000, .inl w_lu)), (mfa, .inl (c_fa, 20000, .inl w_fa)), (mqu, .inl (c_qu, 20000, .inl w_qu))]) [0, 1, 2, 3, 4] (by decide) rfl
    have hK9 := hK.sub (tys' := [(c_wo, .int), (c_lu, .int), (c_fa, .int), (c_qu, .int)]) [0, 1, 2, 3] rfl
    exact W.iret (v := (-2)) hx hb hr (fun t ht hW => ⟨⟨(-2), (), rfl, trivial, w_fa, w_qu, by rw [ht]; exact hP9, va_K.moved hW.alike hK9, hD9⟩, hS.F ht⟩) hS.2.2 dX10_walk_20
  ·
    have n_c_20 : (r_19.toInt : Int) ≠ 0 := c_ne rfl (by decide) c_20
    have b_r_19 : (1 : Int) ≤ r_19.toInt ∧ r_19.toInt ≤ 1 := r_ne1 b_r_19 (by decide : (0 : Int) ≤ (0 : Int32).toInt ∧ (0 : Int32).toInt ≤ 0) n_c_20 (by decide)
    obtain ⟨b_a1, b_a2, g_21⟩ := nz_r_19 c_20
    refine lv_aload_n hx hb dX10_walk_9 rfl (lv_at hl 0 rfl) ?_
    refine lv_iload_n hx hb dX10_walk_10 rfl (lv_at hl 3 rfl) ?_
    obtain ⟨z_22, e_z_22⟩ : ∃ y : Int64, y = a3.toInt64 := ⟨_, rfl⟩
    refine lv_i2l (v := z_22) hx hb dX10_walk_11 e_z_22.symm ?_
    obtain ⟨q_z_22, b_z_22⟩ := ti_i2l e_z_22 (ti_rng a3)
    refine vp_callSi (W.runV (As := [.long z_22]) (rest := []) ⟨hx, hb, hml, hown, hts⟩ (kX10_isTicket l dC dI o0 x_th mwo mim mhi mlu mtp x_td mfv x_sz x_at x_fr x_to x_va x_fk x_fp mfr mwt x_wt x_op x_jo mfg mpl x_dr mtm mfa mqu mmo mwy mwn mma mwi mnu mmv c_wo w_wo ln bs tk lw li z_22 b_ln b_bs b_tk b_lw (hw0) (hw1) (hw2) (hw3) (hw4) (hwz)) (cwV 1 hts gX10_walk__X10_isTicket_V93 rfl rfl rfl hd_yX10_isTicket ⟨lel 2 3 rfl, lel 47 69 rfl⟩) ⟨pw_fb, rcv_X10 hK hP (q0 := 0) rfl, (pw_use hP hK hN [0, 1] rfl [0] rfl)⟩ rfl rfl hl.1 rfl (lv_room (Nat.le_of_ble_eq_true rfl)) dX10_walk_12 ⟨lel 0 0 rfl, lel 0 0 rfl⟩) (fun r_23 h_r_23 => ?_)
    obtain ⟨b_r_23, nz_r_23⟩ := h_r_23
    have b_r_23 : (0 : Int) ≤ r_23.toInt ∧ r_23.toInt ≤ 1 := b_r_23
    refine lv_if_ne (tgt := 21) hx hb dX10_walk_15 (by decide) (fun c_24 => ?_) (fun c_24 => ?_)
    ·
      have n_c_24 : (r_23.toInt : Int) ≠ 0 := c_ne rfl (by decide) c_24
      have b_r_23 : (1 : Int) ≤ r_23.toInt ∧ r_23.toInt ≤ 1 := r_ne1 b_r_23 (by decide : (0 : Int) ≤ (0 : Int32).toInt ∧ (0 : Int32).toInt ≤ 0) n_c_24 (by decide)
      obtain ⟨b_z_22, g_25⟩ := nz_r_23 c_24
      have b_a3 : (0 : Int) ≤ a3.toInt ∧ a3.toInt ≤ 19999 := by
        have q0 := b_z_22; have q1 := q_z_22; have q2 := (ti_rng a3); omega
      refine lv_aload_n hx hb dX10_walk_21 rfl (lv_at hl 0 rfl) ?_
      refine lv_iload_n hx hb dX10_walk_22 rfl (lv_at hl 1 rfl) ?_
      refine lv_iload_n hx hb dX10_walk_23 rfl (lv_at hl 2 rfl) ?_
      refine vp_callSi (W.runV (As := [.int a1, .int a2]) (rest := []) ⟨hx, hb, hml, hown, hts⟩ (kX10_isLucky l dC dI o0 x_th mwo mim mhi mlu mtp x_td mfv x_sz x_at x_fr x_to x_va x_fk x_fp mfr mwt x_wt x_op x_jo mfg mpl x_dr mtm mfa mqu mmo mwy mwn mma mwi mnu mmv c_wo c_lu w_wo w_lu ln bs tk lw li a1 a2 b_ln b_bs b_tk b_lw b_a2 (hw0) (hw1) (hw2) (hw3) (hw4) (hwz)) (cwV 2 hts gX10_walk__X10_isLucky_V316 rfl rfl rfl hd_yX10_isLucky ⟨lel 1 3 rfl, lel 22 69 rfl⟩) ⟨pw_fb, rcv_X10 hK hP (q0 := 0) rfl, (pw_use hP hK hN [0, 1, 2] rfl [0, 1] rfl)⟩ rfl rfl hl.1 rfl (lv_room (Nat.le_of_ble_eq_true rfl)) dX10_walk_24 ⟨lel 0 0 rfl, lel 0 0 rfl⟩) (fun r_26 h_r_26 => ?_)
      have b_r_26 := h_r_26
      have b_r_26 : (0 : Int) ≤ r_26.toInt ∧ r_26.toInt ≤ 1 := b_r_26
      refine lv_if_ne (tgt := 32) hx hb dX10_walk_27 (by decide) (fun c_27 => ?_) (fun c_27 => ?_)
      ·
        have n_c_27 : (r_26.toInt : Int) ≠ 0 := c_ne rfl (by decide) c_27
        have b_r_26 : (1 : Int) ≤ r_26.toInt ∧ r_26.toInt ≤ 1 := r_ne1 b_r_26 (by decide : (0 : Int) ≤ (0 : Int32).toInt ∧ (0 : Int32).toInt ≤ 0) n_c_27 (by decide)
        refine lv_aload_n hx hb dX10_walk_32 rfl (lv_at hl 0 rfl) ?_
        have hFc := va_free (wc := [(o0, .inr (8, [.int x_th, .ref mwo, .ref mim, .ref mhi, .ref mlu, .ref mtp, .int x_td, .ref mfv, .int x_sz, .int x_at, .int x_fr, .int x_to, .int x_va, .int x_fk, .int x_fp, .ref mfr, .ref mwt, .int x_wt, .int x_op, .int x_jo, .ref mfg, .ref mpl, .long x_dr, .ref mtm, .ref mfa, .ref mqu, .ref mmo, .ref mwy, .ref mwn, .ref mma, .ref mwi, .ref mnu, .ref mmv])), (mwo, .inl (c_wo, 1875, .inl w_wo)), (mfa, .inl (c_fa, 20000, .inl w_fa))]) hD hS hA [0, 1, 3] rfl
        refine va_callv (va_runV (As := []) (rest := []) ⟨hx, hb, hml, hown, hts⟩ (kX10_nowhereF l dC dI o0 x_th mwo mim mhi mlu mtp x_td mfv x_sz x_at x_fr x_to x_va x_fk x_fp mfr mwt x_wt x_op x_jo mfg mpl x_dr mtm mfa mqu mmo mwy mwn mma mwi mnu mmv c_wo c_fa w_wo w_fa ln bs tk lw li (s.heap.size) b_ln b_bs b_tk b_lw (hw0) (hw1) (hw2) (hw3) (hw4) (hwz)) (cwV 0 hts gX10_walk__X10_nowhereF_V436 rfl rfl rfl hd_yX10_nowhere ⟨lel 1 3 rfl, lel 21 69 rfl⟩) ⟨hw_fb, rcv_X10 hK hP (q0 := 0) rfl, (hw_use hP hD hK hN [0, 1, 3] rfl (by decide) rfl [0, 2] rfl)⟩ rfl rfl hl.1 rfl (lv_room (Nat.le_of_ble_eq_true rfl)) dX10_walk_33 ⟨lel 0 0 rfl, lel 0 0 rfl⟩) hS (fun q _ h => hFc q h) hFc (fun u_29 t H1 locs ht hvm hw_r_28 hB hz1 hk1 hS => ?_)
        obtain ⟨o0_30, hf_31, hP1, hK1, hD1⟩ := hB
        rw [ht] at hP1
        have hK1 := va_K.moved hvm.symm hK1
        obtain ⟨hP, hD⟩ := va_join (wr := [(mlu, .inl (c_lu, 20000, .inl w_lu)), (mqu, .inl (c_qu, 20000, .inl w_qu))]) (w1 := [(o0, .inr (8, [.int x_th, .ref mwo, .ref mim, .ref mhi, .ref mlu, .ref mtp, .int x_td, .ref mfv, .int x_sz, .int x_at, .int x_fr, .int x_to, .int x_va, .int x_fk, .int x_fp, .ref mfr, .ref mwt, .int x_wt, .int x_op, .int x_jo, .ref mfg, .ref mpl, .long x_dr, .ref mtm, .ref mfa, .ref mqu, .ref mmo, .ref mwy, .ref mwn, .ref mma, .ref mwi, .ref mnu, .ref mmv])), (mwo, .inl (c_wo, 1875, .inl w_wo)), (mfa, .inl (c_fa, 20000, .inl o0_30))]) hP hD [0, 1, 3] [2, 4] rfl rfl (by decide) (by decide) hk1 hFc hP1 hD1
        have hK := (hK.sub (tys' := [(c_lu, .int), (c_qu, .int)]) [1, 3] rfl).app hK1
        generalize H1 = H at hP hS ⊢
        have hP := hP.sub (ws' := [(o0, .inr (8, [.int x_th, .ref mwo, .ref mim, .ref mhi, .ref mlu, .ref mtp, .int x_td, .ref mfv, .int x_sz, .int x_at, .int x_fr, .int x_to, .int x_va, .int x_fk, .int x_fp, .ref mfr, .ref mwt, .int x_wt, .int x_op, .int x_jo, .ref mfg, .ref mpl, .long x_dr, .ref mtm, .ref mfa, .ref mqu, .ref mmo, .ref mwy, .ref mwn, .ref mma, .ref mwi, .ref mnu, .ref mmv])), (mwo, .inl (c_wo, 1875, .inl w_wo)), (mlu, .inl (c_lu, 20000, .inl w_lu)), (mfa, .inl (c_fa, 20000, .inl o0_30)), (mqu, .inl (c_qu, 20000, .inl w_qu))]) [2, 3, 0, 4, 1] rfl
        have hD := hD.sub (ws' := [(o0, .inr (8, [.int x_th, .ref mwo, .ref mim, .ref mhi, .ref mlu, .ref mtp, .int x_td, .ref mfv, .int x_sz, .int x_at, .int x_fr, .int x_to, .int x_va, .int x_fk, .int x_fp, .ref mfr, .ref mwt, .int x_wt, .int x_op, .int x_jo, .ref mfg, .ref mpl, .long x_dr, .ref mtm, .ref mfa, .ref mqu, .ref mmo, .ref mwy, .ref mwn, .ref mma, .ref mwi, .ref mnu, .ref mmv])), (mwo, .inl (c_wo, 1875, .inl w_wo)), (mlu, .inl (c_lu, 20000, .inl w_lu)), (mfa, .inl (c_fa, 20000, .inl o0_30)), (mqu, .inl (c_qu, 20000, .inl w_qu))]) [2, 3, 0, 4, 1] (by decide) rfl
        have hK := hK.sub (tys' := [(c_wo, .int), (c_lu, .int), (c_fa, .int), (c_qu, .int)]) [2, 0, 3, 1] rfl
        have hP : va_P (dC, dI) vwCl [(o0, .inr (8, [.int x_th, .ref mwo, .ref mim, .ref mhi, .ref mlu, .ref mtp, .int x_td, .ref mfv, .int x_sz, .int x_at, .int x_fr, .int x_to, .int x_va, .int x_fk, .int x_fp, .ref mfr, .ref mwt, .int x_wt, .int x_op, .int x_jo, .ref mfg, .ref mpl, .long x_dr, .ref mtm, .ref mfa, .ref mqu, .ref mmo, .ref mwy, .ref mwn, .ref mma, .ref mwi, .ref mnu, .ref mmv])), (mwo, .inl (c_wo, 1875, .inl w_wo)), (mlu, .inl (c_lu, 20000, .inl w_lu)), (mfa, .inl (c_fa, 20000, .inl o0_30)), (mqu, .inl (c_qu, 20000, .inl w_qu))] H := hP
        have hD : va_D A [(o0, .inr (8, [.int x_th, .ref mwo, .ref mim, .ref mhi, .ref mlu, .ref mtp, .int x_td, .ref mfv, .int x_sz, .int x_at, .int x_fr, .int x_to, .int x_va, .int x_fk, .int x_fp, .ref mfr, .ref mwt, .int x_wt, .int x_op, .int x_jo, .ref mfg, .ref mpl, .long x_dr, .ref mtm, .ref mfa, .ref mqu, .ref mmo, .ref mwy, .ref mwn, .ref mma, .ref mwi, .ref mnu, .ref mmv])), (mwo, .inl (c_wo, 1875, .inl w_wo)), (mlu, .inl (c_lu, 20000, .inl w_lu)), (mfa, .inl (c_fa, 20000, .inl o0_30)), (mqu, .inl (c_qu, 20000, .inl w_qu))] := hD
        have hK : va_K (dC, dI) vwCl [(c_wo, .int), (c_lu, .int), (c_fa, .int), (c_qu, .int)] s := hK
        refine lv_aload_n hx hb dX10_walk_36 rfl (lv_at hl 0 rfl) ?_
        refine lv_iload_n hx hb dX10_walk_37 rfl (lv_at hl 1 rfl) ?_
        refine lv_iload_n hx hb dX10_walk_38 rfl (lv_at hl 2 rfl) ?_
        have hFc := va_free (wc := [(o0, .inr (8, [.int x_th, .ref mwo, .ref mim, .ref mhi, .ref mlu, .ref mtp, .int x_td, .ref mfv, .int x_sz, .int x_at, .int x_fr, .int x_to, .int x_va, .int x_fk, .int x_fp, .ref mfr, .ref mwt, .int x_wt, .int x_op, .int x_jo, .ref mfg, .ref mpl, .long x_dr, .ref mtm, .ref mfa, .ref mqu, .ref mmo, .ref mwy, .ref mwn, .ref mma, .ref mwi, .ref mnu, .ref mmv])), (mwo, .inl (c_wo, 1875, .inl w_wo)), (mfa, .inl (c_fa, 20000, .inl o0_30)), (mqu, .inl (c_qu, 20000, .inl w_qu)), (mlu, .inl (c_lu, 20000, .inl w_lu))]) hD hS hA [0, 1, 3, 4, 2] rfl
        refine va_calli (va_runV (As := [.int a1, .int a2]) (rest := []) ⟨hx, hb, hml, hown, hts⟩ (kX10_walksFrom l dC dI o0 x_th mwo mim mhi mlu mtp x_td mfv x_sz x_at x_fr x_to x_va x_fk x_fp mfr mwt x_wt x_op x_jo mfg mpl x_dr mtm mfa mqu mmo mwy mwn mma mwi mnu mmv c_wo c_fa c_qu c_lu w_wo o0_30 w_qu w_lu ln bs tk lw li a1 a2 (H.size) b_ln b_bs b_tk b_lw b_a2 (hw0) (hw1) (hw2) (hw3) (hw4) (hwz) (hf_31 _ (show a2.toInt.toNat < tk.toInt.toNat from by omega)) (htp.resolve_left (by omega)) (by omega)) (cwV 2 hts gX10_walk__X10_walksFrom_V439 rfl rfl rfl hd_yX10_walksFrom ⟨lel 2 3 rfl, lel 52 69 rfl⟩) ⟨hw_fb, rcv_X10 hK hP (q0 := 0) rfl, (hw_use hP hD hK hN [0, 1, 3, 4, 2] rfl (by decide) rfl [0, 2, 3, 1] rfl)⟩ rfl rfl hl.1 rfl (lv_room (Nat.le_of_ble_eq_true rfl)) dX10_walk_39 ⟨lel 0 0 rfl, lel 0 0 rfl⟩) hS (fun q _ h => hFc q h) hFc (fun r_32 u_33 t H1 locs ht hvm hw_r_32 hB hz1 hk1 hS => ?_)
        obtain ⟨o0_34, o1_35, hP1, hK1, hD1⟩ := hB
        rw [ht] at hP1
        have hK1 := va_K.moved hvm.symm hK1
        obtain ⟨hP, hD⟩ := va_join (wr := []) (w1 := [(o0, .inr (8, [.int x_th, .ref mwo, .ref mim, .ref mhi, .ref mlu, .ref mtp, .int x_td, .ref mfv, .int x_sz, .int x_at, .int x_fr, .int x_to, .int x_va, .int x_fk, .int x_fp, .ref mfr, .ref mwt, .int x_wt, .int x_op, .int x_jo, .ref mfg, .ref mpl, .long x_dr, .ref mtm, .ref mfa, .ref mqu, .ref mmo, .ref mwy, .ref mwn, .ref mma, .ref mwi, .ref mnu, .ref mmv])), (mwo, .inl (c_wo, 1875, .inl w_wo)), (mfa, .inl (c_fa, 20000, .inl o0_34)), (mqu, .inl (c_qu, 20000, .inl o1_35)), (mlu, .inl (c_lu, 20000, .inl w_lu))]) hP hD [0, 1, 3, 4, 2] [] rfl rfl (by decide) (by decide) hk1 hFc hP1 hD1
        have hK := (hK.sub (tys' := []) [] rfl).app hK1
        generalize H1 = H at hP hS ⊢
        have hP := hP.sub (ws' := [(o0, .inr (8, [.int x_th, .ref mwo, .ref mim, .ref mhi, .ref mlu, .ref mtp, .int x_td, .ref mfv, .int x_sz, .int x_at, .int x_fr, .int x_to, .int x_va, .int x_fk, .int x_fp, .ref mfr, .ref mwt, .int x_wt, .int x_op, .int x_jo, .ref mfg, .ref mpl, .long x_dr, .ref mtm, .ref mfa, .ref mqu, .ref mmo, .ref mwy, .ref mwn, .ref mma, .ref mwi, .ref mnu, .ref mmv])), (mwo, .inl (c_wo, 1875, .inl w_wo)), (mlu, .inl (c_lu, 20000, .inl w_lu)), (mfa, .inl (c_fa, 20000, .inl o0_34)), (mqu, .inl (c_qu, 20000, .inl o1_35))]) [0, 1, 4, 2, 3] rfl
        have hD := hD.sub (ws' := [(o0, .inr (8, [.int x_th, .ref mwo, .ref mim, .ref mhi, .ref mlu, .ref mtp, .int x_td, .ref mfv, .int x_sz, .int x_at, .int x_fr, .int x_to, .int x_va, .int x_fk, .int x_fp, .ref mfr, .ref mwt, .int x_wt, .int x_op, .int x_jo, .ref mfg, .ref mpl, .long x_dr, .ref mtm, .ref mfa, .ref mqu, .ref mmo, .ref mwy, .ref mwn, .ref mma, .ref mwi, .ref mnu, .ref mmv])), (mwo, .inl (c_wo, 1875, .inl w_wo)), (mlu, .inl (c_lu, 20000, .inl w_lu)), (mfa, .inl (c_fa, 20000, .inl o0_34)), (mqu, .inl (c_qu, 20000, .inl o1_35))]) [0, 1, 4, 2, 3] (by decide) rfl
        have hK := hK.sub (tys' := [(c_wo, .int), (c_lu, .int), (c_fa, .int), (c_qu, .int)]) [0, 3, 1, 2] rfl
        have hP : va_P (dC, dI) vwCl [(o0, .inr (8, [.int x_th, .ref mwo, .ref mim, .ref mhi, .ref mlu, .ref mtp, .int x_td, .ref mfv, .int x_sz, .int x_at, .int x_fr, .int x_to, .int x_va, .int x_fk, .int x_fp, .ref mfr, .ref mwt, .int x_wt, .int x_op, .int x_jo, .ref mfg, .ref mpl, .long x_dr, .ref mtm, .ref mfa, .ref mqu, .ref mmo, .ref mwy, .ref mwn, .ref mma, .ref mwi, .ref mnu, .ref mmv])), (mwo, .inl (c_wo, 1875, .inl w_wo)), (mlu, .inl (c_lu, 20000, .inl w_lu)), (mfa, .inl (c_fa, 20000, .inl o0_34)), (mqu, .inl (c_qu, 20000, .inl o1_35))] H := hP
        have hD : va_D A [(o0, .inr (8, [.int x_th, .ref mwo, .ref mim, .ref mhi, .ref mlu, .ref mtp, .int x_td, .ref mfv, .int x_sz, .int x_at, .int x_fr, .int x_to, .int x_va, .int x_fk, .int x_fp, .ref mfr, .ref mwt, .int x_wt, .int x_op, .int x_jo, .ref mfg, .ref mpl, .long x_dr, .ref mtm, .ref mfa, .ref mqu, .ref mmo, .ref mwy, .ref mwn, .ref mma, .ref mwi, .ref mnu, .ref mmv])), (mwo, .inl (c_wo, 1875, .inl w_wo)), (mlu, .inl (c_lu, 20000, .inl w_lu)), (mfa, .inl (c_fa, 20000, .inl o0_34)), (mqu, .inl (c_qu, 20000, .inl o1_35))] := hD
        have hK : va_K (dC, dI) vwCl [(c_wo, .int), (c_lu, .int), (c_fa, .int), (c_qu, .int)] s := hK
        have b_r_32 := hw_r_32
        have b_r_32 : (1 : Int) ≤ r_32.toInt ∧ r_32.toInt ≤ 20000 := b_r_32
        refine lv_pop hx hb dX10_walk_42 rfl ?_
        refine lv_aload_n hx hb dX10_walk_43 rfl (lv_at hl 0 rfl) ?_
        refine va_get (D := (dC, dI)) (ci := 8) (v := .ref mfa) (C := RX10) (T := TX10) (N := 33) hx hb hts iX10_walk_X10 hown hK hP 0 rfl rfl 24 (by decide) (hts (.fieldLink RX10 49 "LuckyTicketModel" "far" "[I") (List.mem_of_getElem? (i := 17) rfl)) (fun _ h9 => h9) rfl dX10_walk_44 ?_
        refine lv_iload_n hx hb dX10_walk_47 rfl (lv_at hl 3 rfl) ?_
        refine va_iald hx hb hK hP 3 2 rfl rfl (vp_in_b b_a3 (by decide) (by decide)) dX10_walk_48 ?_
        refine lv_topi (fun z_36 e_z_36 => ?_)
        have hP9 := hP.sub (ws' := [(o0, .inr (8, [.int x_th, .ref mwo, .ref mim, .ref mhi, .ref mlu, .ref mtp, .int x_td, .ref mfv, .int x_sz, .int x_at, .int x_fr, .int x_to, .int x_va, .int x_fk, .int x_fp, .ref mfr, .ref mwt, .int x_wt, .int x_op, .int x_jo, .ref mfg, .ref mpl, .long x_dr, .ref mtm, .ref mfa, .ref mqu, .ref mmo, .ref mwy, .ref mwn, .ref mma, .ref mwi, .ref mnu, .ref mmv])), (mwo, .inl (c_wo, 1875, .inl w_wo)), (mlu, .inl (c_lu, 20000, .inl w_lu)), (mfa, .inl (c_fa, 20000, .inl o0_34)), (mqu, .inl (c_qu, 20000, .inl o1_35))]) [0, 1, 2, 3, 4] rfl
        have hD9 := hD.sub (ws' := [(o0, .inr (8, [.int x_th, .ref mwo, .ref mim, .ref mhi, .ref mlu, .ref mtp, .int x_td, .ref mfv, .int x_sz, .int x_at, .int x_fr, .int x_to, .int x_va, .int x_fk, .int x_fp, .ref mfr, .ref mwt, .int x_wt, .int x_op, .int x_jo, .ref mfg, .ref mpl, .long x_dr, .ref mtm, .ref mfa, .ref mqu, .ref mmo, .ref mwy, .ref mwn, .ref mma, .ref mwi, .ref mnu, .ref mmv])), (mwo, .inl (c_wo, 1875, .inl w_wo)), (mlu, .inl (c_lu, 20000, .inl w_lu)), (mfa, .inl (c_fa, 20000, .inl o0_34)), (mqu, .inl (c_qu, 20000, .inl o1_35))]) [0, 1, 2, 3, 4] (by decide) rfl
        have hK9 := hK.sub (tys' := [(c_wo, .int), (c_lu, .int), (c_fa, .int), (c_qu, .int)]) [0, 1, 2, 3] rfl
        exact W.iret (v := z_36) hx hb hr (fun t ht hW => ⟨⟨z_36, (), rfl, trivial, o0_34, o1_35, by rw [ht]; exact hP9, va_K.moved hW.alike hK9, hD9⟩, hS.F ht⟩) hS.2.2 dX10_walk_49
      ·
        have n_c_27 : (r_26.toInt : Int) = 0 := c_eq rfl (by decide) c_27
        have b_r_26 : (0 : Int) ≤ r_26.toInt ∧ r_26.toInt ≤ 0 := r_eq1 b_r_26 (by decide : (0 : Int) ≤ (0 : Int32).toInt ∧ (0 : Int32).toInt ≤ 0) n_c_27 (by decide)
        refine lv_iconst (v := (-1)) hx hb dX10_walk_30 (by decide) ?_
        have hP9 := hP.sub (ws' := [(o0, .inr (8, [.int x_th, .ref mwo, .ref mim, .ref mhi, .ref mlu, .ref mtp, .int x_td, .ref mfv, .int x_sz, .int x_at, .int x_fr, .int x_to, .int x_va, .int x_fk, .int x_fp, .ref mfr, .ref mwt, .int x_wt, .int x_op, .int x_jo, .ref mfg, .ref mpl, .long x_dr, .ref mtm, .ref mfa, .ref mqu, .ref mmo, .ref mwy, .ref mwn, .ref mma, .ref mwi, .ref mnu, .ref mmv])), (mwo, .inl (c_wo, 1875, .inl w_wo)), (mlu, .inl (c_lu, 20000, .inl w_lu)), (mfa, .inl (c_fa, 20000, .inl w_fa)), (mqu, .inl (c_qu, 20000, .inl w_qu))]) [0, 1, 2, 3, 4] rfl
        have hD9 := hD.sub (ws' := [(o0, .inr (8, [.int x_th, .ref mwo, .ref mim, .ref mhi, .ref mlu, .ref mtp, .int x_td, .ref mfv, .int x_sz, .int x_at, .int x_fr, .int x_to, .int x_va, .int x_fk, .int x_fp, .ref mfr, .ref mwt, .int x_wt, .int x_op, .int x_jo, .ref mfg, .ref mpl, .long x_dr, .ref mtm, .ref mfa, .ref mqu, .ref mmo, .ref mwy, .ref mwn, .ref mma, .ref mwi, .ref mnu, .ref mmv])), (mwo, .inl (c_wo, 1875, .inl w_wo)), (mlu, .inl (c_lu, 20000, .inl w_lu)), (mfa, .inl (c_fa, 20000, .inl w_fa)), (mqu, .inl (c_qu, 20000, .inl w_qu))]) [0, 1, 2, 3, 4] (by decide) rfl
        have hK9 := hK.sub (tys' := [(c_wo, .int), (c_lu, .int), (c_fa, .int), (c_qu, .int)]) [0, 1, 2, 3] rfl
        exact W.iret (v := (-1)) hx hb hr (fun t ht hW => ⟨⟨(-1), (), rfl, trivial, w_fa, w_qu, by rw [ht]; exact hP9, va_K.moved hW.alike hK9, hD9⟩, hS.F ht⟩) hS.2.2 dX10_walk_31
    ·
      have n_c_24 : (r_23.toInt : Int) = 0 := c_eq rfl (by decide) c_24
      have b_r_23 : (0 : Int) ≤ r_23.toInt ∧ r_23.toInt ≤ 0 := r_eq1 b_r_23 (by decide : (0 : Int) ≤ (0 : Int32).toInt ∧ (0 : Int32).toInt ≤ 0) n_c_24 (by decide)
      refine lv_bipush (v := (-2)) hx hb dX10_walk_18 (by decide) ?_
      have hP9 := hP.sub (ws' := [(o0, .inr (8, [.int x_th, .ref mwo, .ref mim, .ref mhi, .ref mlu, .ref mtp, .int x_td, .ref mfv, .int x_sz, .int x_at, .int x_fr, .int x_to, .int x_va, .int x_fk, .int x_fp, .ref mfr, .ref mwt, .int x_wt, .int x_op, .int x_jo, .ref mfg, .ref mpl, .long x_dr, .ref mtm, .ref mfa, .ref mqu, .ref mmo, .ref mwy, .ref mwn, .ref mma, .ref mwi, .ref mnu, .ref mmv])), (mwo, .inl (c_wo, 1875, .inl w_wo)), (mlu, .inl (c_lu, 20000, .inl w_lu)), (mfa, .inl (c_fa, 20000, .inl w_fa)), (mqu, .inl (c_qu, 20000, .inl w_qu))]) [0, 1, 2, 3, 4] rfl
      have hD9 := hD.sub (ws' := [(o0, .inr (8, [.int x_th, .ref mwo, .ref mim, .ref mhi, .ref mlu, .ref mtp, .int x_td, .ref mfv, .int x_sz, .int x_at, .int x_fr, .int x_to, .int x_va, .int x_fk, .int x_fp, .ref mfr, .ref mwt, .int x_wt, .int x_op, .int x_jo, .ref mfg, .ref mpl, .long x_dr, .ref mtm, .ref mfa, .ref mqu, .ref mmo, .ref mwy, .ref mwn, .ref mma, .ref mwi, .ref mnu, .ref mmv])), (mwo, .inl (c_wo, 1875, .inl w_wo)), (mlu, .inl (c_lu, 20000, .inl w_lu)), (mfa, .inl (c_fa, 20000, .inl w_fa)), (mqu, .inl (c_qu, 20000, .inl w_qu))]) [0, 1, 2, 3, 4] (by decide) rfl
      have hK9 := hK.sub (tys' := [(c_wo, .int), (c_lu, .int), (c_fa, .int), (c_qu, .int)]) [0, 1, 2, 3] rfl
      exact W.iret (v := (-2)) hx hb hr (fun t ht hW => ⟨⟨(-2), (), rfl, trivial, w_fa, w_qu, by rw [ht]; exact hP9, va_K.moved hW.alike hK9, hD9⟩, hS.F ht⟩) hS.2.2 dX10_walk_20
theorem dX10_islands_0 : decode cX10_islands 0 = .ok (.aload_n 0, 1) := by decide +kernel
theorem dX10_islands_1 : decode cX10_islands 1 = .ok (.iload_n 1, 1) := by decide +kernel
theorem dX10_islands_2 : decode cX10_islands 2 = .ok (.invokevirtual 89, 3) := by decide +kernel
theorem dX10_islands_5 : decode cX10_islands 5 = .ok (.ifCond .eq 15, 3) := by decide +kernel
theorem dX10_islands_8 : decode cX10_islands 8 = .ok (.iload_n 2, 1) := by decide +kernel
theorem dX10_islands_9 : decode cX10_islands 9 = .ok (.i2l, 1) := by decide +kernel
theorem dX10_islands_10 : decode cX10_islands 10 = .ok (.lconst 0, 1) := by decide +kernel
theorem dX10_islands_11 : decode cX10_islands 11 = .ok (.ldc2_w 80, 3) := by decide +kernel
theorem dX10_islands_14 : decode cX10_islands 14 = .ok (.invokestatic 82, 3) := by decide +kernel
theorem dX10_islands_17 : decode cX10_islands 17 = .ok (.ifCond .ne 6, 3) := by decide +kernel
theorem dX10_islands_20 : decode cX10_islands 20 = .ok (.bipush (-2), 2) := by decide +kernel
theorem dX10_islands_22 : decode cX10_islands 22 = .ok (.ireturn, 1) := by decide +kernel
theorem dX10_islands_23 : decode cX10_islands 23 = .ok (.aload_n 0, 1) := by decide +kernel
theorem dX10_islands_24 : decode cX10_islands 24 = .ok (.invokevirtual 436, 3) := by decide +kernel
theorem dX10_islands_27 : decode cX10_islands 27 = .ok (.iconst 0, 1) := by decide +kernel
theorem dX10_islands_28 : decode cX10_islands 28 = .ok (.istore_n 3, 1) := by decide +kernel
theorem dX10_islands_29 : decode cX10_islands 29 = .ok (.iconst 0, 1) := by decide +kernel
theorem dX10_islands_30 : decode cX10_islands 30 = .ok (.istore 4, 2) := by decide +kernel
theorem dX10_islands_32 : decode cX10_islands 32 = .ok (.iconst (-1), 1) := by decide +kernel
theorem dX10_islands_33 : decode cX10_islands 33 = .ok (.istore 5, 2) := by decide +kernel
theorem dX10_islands_35 : decode cX10_islands 35 = .ok (.iconst 0, 1) := by decide +kernel
theorem dX10_islands_36 : decode cX10_islands 36 = .ok (.istore 6, 2) := by decide +kernel
theorem dX10_islands_38 : decode cX10_islands 38 = .ok (.iload 6, 2) := by decide +kernel
theorem dX10_islands_40 : decode cX10_islands 40 = .ok (.aload_n 0, 1) := by decide +kernel
theorem dX10_islands_41 : decode cX10_islands 41 = .ok (.getfield 9, 3) := by decide +kernel
theorem dX10_islands_44 : decode cX10_islands 44 = .ok (.iconst 2, 1) := by decide +kernel
theorem dX10_islands_45 : decode cX10_islands 45 = .ok (.iaload, 1) := by decide +kernel
theorem dX10_islands_46 : decode cX10_islands 46 = .ok (.if_icmp .ge 70, 3) := by decide +kernel
theorem dX10_islands_49 : decode cX10_islands 49 = .ok (.aload_n 0, 1) := by decide +kernel
theorem dX10_islands_50 : decode cX10_islands 50 = .ok (.iload_n 1, 1) := by decide +kernel
theorem dX10_islands_51 : decode cX10_islands 51 = .ok (.iload 6, 2) := by decide +kernel
theorem dX10_islands_53 : decode cX10_islands 53 = .ok (.invokevirtual 316, 3) := by decide +kernel
theorem dX10_islands_56 : decode cX10_islands 56 = .ok (.ifCond .eq 54, 3) := by decide +kernel
theorem dX10_islands_59 : decode cX10_islands 59 = .ok (.aload_n 0, 1) := by decide +kernel
theorem dX10_islands_60 : decode cX10_islands 60 = .ok (.getfield 49, 3) := by decide +kernel
theorem dX10_islands_63 : decode cX10_islands 63 = .ok (.iload 6, 2) := by decide +kernel
theorem dX10_islands_65 : decode cX10_islands 65 = .ok (.iaload, 1) := by decide +kernel
theorem dX10_islands_66 : decode cX10_islands 66 = .ok (.iconst (-1), 1) := by decide +kernel
theorem dX10_islands_67 : decode cX10_islands 67 = .ok (.if_icmp .eq 6, 3) := by decide +kernel
theorem dX10_islands_70 : decode cX10_islands 70 = .ok (.goto 40, 3) := by decide +kernel
theorem dX10_islands_73 : decode cX10_islands 73 = .ok (.aload_n 0, 1) := by decide +kernel
theorem dX10_islands_74 : decode cX10_islands 74 = .ok (.iload_n 1, 1) := by decide +kernel
theorem dX10_islands_75 : decode cX10_islands 75 = .ok (.iload 6, 2) := by decide +kernel
theorem dX10_islands_77 : decode cX10_islands 77 = .ok (.invokevirtual 439, 3) := by decide +kernel
theorem dX10_islands_80 : decode cX10_islands 80 = .ok (.istore 7, 2) := by decide +kernel
theorem dX10_islands_82 : decode cX10_islands 82 = .ok (.iinc 3 1, 3) := by decide +kernel
theorem dX10_islands_85 : decode cX10_islands 85 = .ok (.iload 7, 2) := by decide +kernel
theorem dX10_islands_87 : decode cX10_islands 87 = .ok (.iload 4, 2) := by decide +kernel
theorem dX10_islands_89 : decode cX10_islands 89 = .ok (.if_icmp .le 8, 3) := by decide +kernel
theorem dX10_islands_92 : decode cX10_islands 92 = .ok (.iload 6, 2) := by decide +kernel
theorem dX10_islands_94 : decode cX10_islands 94 = .ok (.goto 5, 3) := by decide +kernel
theorem dX10_islands_97 : decode cX10_islands 97 = .ok (.iload 5, 2) := by decide +kernel
theorem dX10_islands_99 : decode cX10_islands 99 = .ok (.istore 5, 2) := by decide +kernel
theorem dX10_islands_101 : decode cX10_islands 101 = .ok (.iload 4, 2) := by decide +kernel
theorem dX10_islands_103 : decode cX10_islands 103 = .ok (.iload 7, 2) := by decide +kernel
theorem dX10_islands_105 : decode cX10_islands 105 = .ok (.invokestatic 427, 3) := by decide +kernel
theorem dX10_islands_108 : decode cX10_islands 108 = .ok (.istore 4, 2) := by decide +kernel
theorem dX10_islands_110 : decode cX10_islands 110 = .ok (.iinc 6 1, 3) := by decide +kernel
theorem dX10_islands_113 : decode cX10_islands 113 = .ok (.goto (-75), 3) := by decide +kernel
theorem dX10_islands_116 : decode cX10_islands 116 = .ok (.iload_n 2, 1) := by decide +kernel
theorem dX10_islands_117 : decode cX10_islands 117 = .ok (.ifCond .ne 7, 3) := by decide +kernel
theorem dX10_islands_120 : decode cX10_islands 120 = .ok (.iload_n 3, 1) := by decide +kernel
theorem dX10_islands_121 : decode cX10_islands 121 = .ok (.goto 15, 3) := by decide +kernel
theorem dX10_islands_124 : decode cX10_islands 124 = .ok (.iload_n 2, 1) := by decide +kernel
theorem dX10_islands_125 : decode cX10_islands 125 = .ok (.iconst 1, 1) := by decide +kernel
theorem dX10_islands_126 : decode cX10_islands 126 = .ok (.if_icmp .ne 8, 3) := by decide +kernel
theorem dX10_islands_129 : decode cX10_islands 129 = .ok (.iload 4, 2) := by decide +kernel
theorem dX10_islands_131 : decode cX10_islands 131 = .ok (.goto 5, 3) := by decide +kernel
theorem dX10_islands_134 : decode cX10_islands 134 = .ok (.iload 5, 2) := by decide +kernel
theorem dX10_islands_136 : decode cX10_islands 136 = .ok (.ireturn, 1) := by decide +kernel
theorem hd_yX10_islands : yX10_islands.cls = RX10 ∧ yX10_islands.cls ≠ "java/lang/invoke/MethodHandle" ∧ yX10_islands.cls ≠ "java/lang/invoke/VarHandle" ∧ (parseMethodDescriptor yX10_islands.desc).map (fun d => d.parameters.length) = some 2 := by decide +kernel
def uX10_islands : List Cond := List.cons (.code yX10_islands cX10_islands 8 (some .int)) (HAppend.hAppend ([.methodLink RX10 89 yX10_isLaw, .instanceMethod yX10_isLaw, .selects RX10 yX10_isLaw yX10_isLaw, .initialized RX10, .constantLong RX10 80 (2), .methodLink RX10 82 yX10_in, .static yX10_in, .methodLink RX10 436 yX10_nowhere, .instanceMethod yX10_nowhere, .selects RX10 yX10_nowhere yX10_nowhere, .fieldLink RX10 9 "LuckyTicketModel" "world" "[I", .methodLink RX10 316 yX10_isLucky, .instanceMethod yX10_isLucky, .selects RX10 yX10_isLucky yX10_isLucky, .fieldLink RX10 49 "LuckyTicketModel" "far" "[I", .methodLink RX10 439 yX10_walksFrom, .instanceMethod yX10_walksFrom, .selects RX10 yX10_walksFrom yX10_walksFrom, .methodLink RX10 427 yJ9_max_7cf53, .static yJ9_max_7cf53, .initialized RJ9, .code yJ9_max_7cf53 cJ9_max_7cf53 2 (some .int)] : List Cond) (HAppend.hAppend uX10_isLaw (HAppend.hAppend uX10_in (HAppend.hAppend uX10_nowhereF (HAppend.hAppend uX10_isLucky (HAppend.hAppend uX10_walksFrom wsX100))))))
theorem iX10_islands_X10 : ∀ w ∈ wsX100, w ∈ uX10_islands := fun _ h => (List.mem_cons_of_mem _ (List.mem_append_right _ (List.mem_append_right _ (List.mem_append_right _ (List.mem_append_right _ (List.mem_append_right _ (List.mem_append_right _ h)))))))
theorem guX10_islands : GU uX10_islands := gu_cons (gu_app (by decide +kernel) (gu_ap guX10_isLaw (gu_ap guX10_in (gu_ap guX10_nowhereF (gu_ap guX10_isLucky (gu_ap guX10_walksFrom gws_X10))))))
theorem gX10_islands__X10_isLaw_V89 : GoodIn uX10_islands (wsV RX10 89 RX10 yX10_isLaw uX10_isLaw) := gin_V (List.mem_of_getElem? (i := 1) rfl) (List.mem_of_getElem? (i := 2) rfl) (List.mem_of_getElem? (i := 3) rfl) (List.mem_of_getElem? (i := 4) rfl) (fun _ h => (List.mem_cons_of_mem _ (List.mem_append_right _ (List.mem_append_left _ h)))) guX10_isLaw
theorem gX10_islands__X10_in_S82 : GoodIn uX10_islands (va_wsS RX10 82 yX10_in uX10_in) := gin_S (List.mem_of_getElem? (i := 6) rfl) (List.mem_of_getElem? (i := 7) rfl) (List.mem_of_getElem? (i := 4) rfl) (fun _ h => (List.mem_cons_of_mem _ (List.mem_append_right _ (List.mem_append_right _ (List.mem_append_left _ h))))) guX10_in
theorem gX10_islands__X10_nowhereF_V436 : GoodIn uX10_islands (wsV RX10 436 RX10 yX10_nowhere uX10_nowhereF) := gin_V (List.mem_of_getElem? (i := 8) rfl) (List.mem_of_getElem? (i := 9) rfl) (List.mem_of_getElem? (i := 10) rfl) (List.mem_of_getElem? (i := 4) rfl) (fun _ h => (List.mem_cons_of_mem _ (List.mem_append_right _ (List.mem_append_right _ (List.mem_append_right _ (List.mem_append_left _ h)))))) guX10_nowhereF
theorem gX10_islands__X10_isLucky_V316 : GoodIn uX10_islands (wsV RX10 316 RX10 yX10_isLucky uX10_isLucky) := gin_V (List.mem_of_getElem? (i := 12) rfl) (List.mem_of_getElem? (i := 13) rfl) (List.mem_of_getElem? (i := 14) rfl) (List.mem_of_getElem? (i := 4) rfl) (fun _ h => (List.mem_cons_of_mem _ (List.mem_append_right _ (List.mem_append_right _ (List.mem_append_right _ (List.mem_append_right _ (List.mem_append_left _ h))))))) guX10_isLucky
theorem gX10_islands__X10_walksFrom_V439 : GoodIn uX10_islands (wsV RX10 439 RX10 yX10_walksFrom uX10_walksFrom) := gin_V (List.mem_of_getElem? (i := 16) rfl) (List.mem_of_getElem? (i := 17) rfl) (List.mem_of_getElem? (i := 18) rfl) (List.mem_of_getElem? (i := 4) rfl) (fun _ h => (List.mem_cons_of_mem _ (List.mem_append_right _ (List.mem_append_right _ (List.mem_append_right _ (List.mem_append_right _ (List.mem_append_right _ (List.mem_append_left _ h)))))))) guX10_walksFrom
set_option maxHeartbeats 4000000 in
set_option maxRecDepth 100000 in
theorem kX10_islands (l : Launch) (dC : Nat → ClassId) (dI : Nat → Nat → Nat) (o0 : Nat) (x_th : Int32) (mwo : Nat) (mim : Nat) (mhi : Nat) (mlu : Nat) (mtp : Nat) (x_td : Int32) (mfv : Nat) (x_sz : Int32) (x_at : Int32) (x_fr : Int32) (x_to : Int32) (x_va : Int32) (x_fk : Int32) (x_fp : Int32) (mfr : Nat) (mwt : Nat) (x_wt : Int32) (x_op : Int32) (x_jo : Int32) (mfg : Nat) (mpl : Nat) (x_dr : Int64) (mtm : Nat) (mfa : Nat) (mqu : Nat) (mmo : Nat) (mwy : Nat) (mwn : Nat) (mma : Nat) (mwi : Nat) (mnu : Nat) (mmv : Nat) (c_wo : ClassId) (c_lu : ClassId) (c_fa : ClassId) (c_qu : ClassId) (w_wo : Nat → Int32) (w_lu : Nat → Int32) (w_fa : Nat → Int32) (w_qu : Nat → Int32) (ln : Int32) (bs : Int32) (tk : Int32) (lw : Int32) (li : Int32) (a1 : Int32) (a2 : Int32) (sz : Nat) (b_ln : (0 : Int) ≤ ln.toInt ∧ ln.toInt ≤ 12) (b_bs : (0 : Int) ≤ bs.toInt ∧ bs.toInt ≤ 16) (b_tk : (0 : Int) ≤ tk.toInt ∧ tk.toInt ≤ 20000) (b_lw : (0 : Int) ≤ lw.toInt ∧ lw.toInt ≤ 9) (hw0 : w_wo 0 = ln) (hw1 : w_wo 1 = bs) (hw2 : w_wo 2 = tk) (hw3 : w_wo 3 = lw) (hw4 : w_wo 4 = li) (hwz : (ln.toInt = 0 ∧ bs.toInt = 0 ∧ tk.toInt = 0 ∧ lw.toInt = 0) ∨ (1 ≤ ln.toInt ∧ 2 ≤ bs.toInt ∧ 1 ≤ tk.toInt)) (htp : tk.toInt = 0 ∨ tk.toInt = ((bs.toInt.toNat ^ ln.toInt.toNat : Nat) : Int)) : Met l yX10_islands uX10_islands ({ frames := 2, cells := 0, slots := 0, locals := 52 }) (va_Pc [.ref o0, .int a1, .int a2] (hw (dC, dI) vwCl [(o0, .inr (8, [.int x_th, .ref mwo, .ref mim, .ref mhi, .ref mlu, .ref mtp, .int x_td, .ref mfv, .int x_sz, .int x_at, .int x_fr, .int x_to, .int x_va, .int x_fk, .int x_fp, .ref mfr, .ref mwt, .int x_wt, .int x_op, .int x_jo, .ref mfg, .ref mpl, .long x_dr, .ref mtm, .ref mfa, .ref mqu, .ref mmo, .ref mwy, .ref mwn, .ref mma, .ref mwi, .ref mnu, .ref mmv])), (mwo, .inl (c_wo, 1875, .inl w_wo)), (mlu, .inl (c_lu, 20000, .inl w_lu)), (mfa, .inl (c_fa, 20000, .inl w_fa)), (mqu, .inl (c_qu, 20000, .inl w_qu))] [(c_wo, .int), (c_lu, .int), (c_fa, .int), (c_qu, .int)] sz)) (va_Qi (fun (r : Int32) (_ : Unit) => True) (fun (_ : Unit) t => ∃ (o0_ : Nat → Int32) (o1_ : Nat → Int32), va_P (dC, dI) vwCl [(o0, .inr (8, [.int x_th, .ref mwo, .ref mim, .ref mhi, .ref mlu, .ref mtp, .int x_td, .ref mfv, .int x_sz, .int x_at, .int x_fr, .int x_to, .int x_va, .int x_fk, .int x_fp, .ref mfr, .ref mwt, .int x_wt, .int x_op, .int x_jo, .ref mfg, .ref mpl, .long x_dr, .ref mtm, .ref mfa, .ref mqu, .ref mmo, .ref mwy, .ref mwn, .ref mma, .ref mwi, .ref mnu, .ref mmv])), (mwo, .inl (c_wo, 1875, .inl w_wo)), (mlu, .inl (c_lu, 20000, .inl w_lu)), (mfa, .inl (c_fa, 20000, .inl o0_)), (mqu, .inl (c_qu, 20000, .inl o1_))] t.heap ∧ va_K (dC, dI) vwCl [(c_wo, .int), (c_lu, .int), (c_fa, .int), (c_qu, .int)] t ∧ va_D (va_A [(o0, .inr (8, [.int x_th, .ref mwo, .ref mim, .ref mhi, .ref mlu, .ref mtp, .int x_td, .ref mfv, .int x_sz, .int x_at, .int x_fr, .int x_to, .int x_va, .int x_fk, .int x_fp, .ref mfr, .ref mwt, .int x_wt, .int x_op, .int x_jo, .ref mfg, .ref mpl, .long x_dr, .ref mtm, .ref mfa, .ref mqu, .ref mmo, .ref mwy, .ref mwn, .ref mma, .ref mwi, .ref mnu, .ref mmv])), (mwo, .inl (c_wo, 1875, .inl w_wo)), (mlu, .inl (c_lu, 20000, .inl w_lu)), (mfa, .inl (c_fa, 20000, .inl w_fa)), (mqu, .inl (c_qu, 20000, .inl w_qu))] sz) [(o0, .inr (8, [.int x_th, .ref mwo, .ref mim, .ref mhi, .ref mlu, .ref mtp, .int x_td, .ref mfv, .int x_sz, .int x_at, .int x_fr, .int x_to, .int x_va, .int x_fk, .int x_fp, .ref mfr, .ref mwt, .int x_wt, .int x_op, .int x_jo, .ref mfg, .ref mpl, .long x_dr, .ref mtm, .ref mfa, .ref mqu, .ref mmo, .ref mwy, .ref mwn, .ref mma, .ref mwi, .ref mnu, .ref mmv])), (mwo, .inl (c_wo, 1875, .inl w_wo)), (mlu, .inl (c_lu, 20000, .inl w_lu)), (mfa, .inl (c_fa, 20000, .inl o0_)), (mqu, .inl (c_qu, 20000, .inl o1_))]) (va_A [(o0, .inr (8, [.int x_th, .ref mwo, .ref mim, .ref mhi, .ref mlu, .ref mtp, .int x_td, .ref mfv, .int x_sz, .int x_at, .int x_fr, .int x_to, .int x_va, .int x_fk, .int x_fp, .ref mfr, .ref mwt, .int x_wt, .int x_op, .int x_jo, .ref mfg, .ref mpl, .long x_dr, .ref mtm, .ref mfa, .ref mqu, .ref mmo, .ref mwy, .ref mwn, .ref mma, .ref mwi, .ref mnu, .ref mmv])), (mwo, .inl (c_wo, 1875, .inl w_wo)), (mlu, .inl (c_lu, 20000, .inl w_lu)), (mfa, .inl (c_fa, 20000, .inl w_fa)), (mqu, .inl (c_qu, 20000, .inl w_qu))] sz)) 0 0 (va_A [(o0, .inr (8, [.int x_th, .ref mwo, .ref mim, .ref mhi, .ref mlu, .ref mtp, .int x_td, .ref mfv, .int x_sz, .int x_at, .int x_fr, .int x_to, .int x_va, .int x_fk, .int x_fp, .ref mfr, .ref mwt, .int x_wt, .int x_op, .int x_jo, .ref mfg, .ref mpl, .long x_dr, .ref mtm, .ref mfa, .ref mqu, .ref mmo, .ref mwy, .ref mwn, .ref mma, .ref mwi, .ref mnu, .ref mmv])), (mwo, .inl (c_wo, 1875, .inl w_wo)), (mlu, .inl (c_lu, 20000, .inl w_lu)), (mfa, .inl (c_fa, 20000, .inl w_fa)), (mqu, .inl (c_qu, 20000, .inl w_qu))] sz) := by
  refine Met.ofW (cc := cX10_islands) (maxL := 8) (ret := (some .int)) pn_X10 rfl ?_
  intro p e s m args below meth c s₁ B hml hv
  obtain ⟨rfl, hsz, hP, hK, hD0, hN⟩ := hv
  have hx := B.exec
  have hb := B.bytes
  have hr := B.returns
  have hts := atoms_spec (ws := uX10_islands) B.pre
  have hown : s.vm.findClass RX10 = some m.cls := hown_of B.named rfl
  have hlocks := B.notSynchronized
  subst hsz
  have hD := hD0.self (sz := s.heap.size)
  generalize hAe : va_A [(o0, .inr (8, [.int x_th, .ref mwo, .ref mim, .ref mhi, .ref mlu, .ref mtp, .int x_td, .ref mfv, .int x_sz, .int x_at, .int x_fr, .int x_to, .int x_va, .int x_fk, .int x_fp, .ref mfr, .ref mwt, .int x_wt, .int x_op, .int x_jo, .ref mfg, .ref mpl, .long x_dr, .ref mtm, .ref mfa, .ref mqu, .ref mmo, .ref mwy, .ref mwn, .ref mma, .ref mwi, .ref mnu, .ref mmv])), (mwo, .inl (c_wo, 1875, .inl w_wo)), (mlu, .inl (c_lu, 20000, .inl w_lu)), (mfa, .inl (c_fa, 20000, .inl w_fa)), (mqu, .inl (c_qu, 20000, .inl w_qu))] s.heap.size = A at hD ⊢
  have hA : ∀ q : Nat, s.heap.size ≤ q → A q := fun q h => by rw [← hAe]; exact Or.inr h
  have hS : va_S A s.heap s.heap [] := va_S.rf
  have hP : va_P (dC, dI) vwCl [(o0, .inr (8, [.int x_th, .ref mwo, .ref mim, .ref mhi, .ref mlu, .ref mtp, .int x_td, .ref mfv, .int x_sz, .int x_at, .int x_fr, .int x_to, .int x_va, .int x_fk, .int x_fp, .ref mfr, .ref mwt, .int x_wt, .int x_op, .int x_jo, .ref mfg, .ref mpl, .long x_dr, .ref mtm, .ref mfa, .ref mqu, .ref mmo, .ref mwy, .ref mwn, .ref mma, .ref mwi, .ref mnu, .ref mmv])), (mwo, .inl (c_wo, 1875, .inl w_wo)), (mlu, .inl (c_lu, 20000, .inl w_lu)), (mfa, .inl (c_fa, 20000, .inl w_fa)), (mqu, .inl (c_qu, 20000, .inl w_qu))] s.heap := hP
  have hl := lv_entry ([.ref o0, .int a1, .int a2]) (n := 8) (Nat.le_of_ble_eq_true rfl)
  rw [lg_entry_eq]
  generalize (lg_sl ([.ref o0, .int a1, .int a2]) ++ List.replicate (8 - (lg_sl ([.ref o0, .int a1, .int a2])).length) Slot.unset).toArray = ls at hl ⊢
  have hl : lv_has ls 8 [(0, .ref o0), (1, .int a1), (2, .int a2)] := hl
  refine lv_aload_n hx hb dX10_islands_0 rfl (lv_at hl 0 rfl) ?_
  refine lv_iload_n hx hb dX10_islands_1 rfl (lv_at hl 1 rfl) ?_
  refine vp_callSi (W.runV (As := [.int a1]) (rest := []) ⟨hx, hb, hml, hown, hts⟩ (kX10_isLaw l dC dI o0 x_th mwo mim mhi mlu mtp x_td mfv x_sz x_at x_fr x_to x_va x_fk x_fp mfr mwt x_wt x_op x_jo mfg mpl x_dr mtm mfa mqu mmo mwy mwn mma mwi mnu mmv c_wo w_wo ln bs tk lw li a1 b_ln b_bs b_tk b_lw (hw0) (hw1) (hw2) (hw3) (hw4) (hwz)) (cwV 1 hts gX10_islands__X10_isLaw_V89 rfl rfl rfl hd_yX10_isLaw ⟨lel 2 2 rfl, lel 46 52 rfl⟩) ⟨pw_fb, rcv_X10 hK hP (q0 := 0) rfl, (pw_use hP hK hN [0, 1] rfl [0] rfl)⟩ rfl rfl hl.1 rfl (lv_room (Nat.le_of_ble_eq_true rfl)) dX10_islands_2 ⟨lel 0 0 rfl, lel 0 0 rfl⟩) (fun r_1034 h_r_1034 => ?_)
  obtain ⟨b_r_1034, nz_r_1034⟩ := h_r_1034
  have b_r_1034 : (0 : Int) ≤ r_1034.toInt ∧ r_1034.toInt ≤ 1 := b_r_1034
  refine lv_if_eq (tgt := 20) hx hb dX10_islands_5 (by decide) (fun c_1035 => ?_) (fun c_1035 => ?_)
  ·
    have n_c_1035 : (r_1034.toInt : Int) = 0 := c_eq rfl (by decide) c_1035
    have b_r_1034 : (0 : Int) ≤ r_1034.toInt ∧ r_1034.toInt ≤ 0 := r_eq1 b_r_1034 (by decide : (0 : Int) ≤ (0 : Int32).toInt ∧ (0 : Int32).toInt ≤ 0) n_c_1035 (by decide)
    refine lv_bipush (v := (-2)) hx hb dX10_islands_20 (by decide) ?_
    have hP9 := hP.sub (ws' := [(o0, .inr (8, [.int x_th, .ref mwo, .ref mim, .ref mhi, .ref mlu, .ref mtp, .int x_td, .ref mfv, .int x_sz, .int x_at, .int x_fr, .int x_to, .int x_va, .int x_fk, .int x_fp, .ref mfr, .ref mwt, .int x_wt, .int x_op, .int x_jo, .ref mfg, .ref mpl, .long x_dr, .ref mtm, .ref mfa, .ref mqu, .ref mmo, .ref mwy, .ref mwn, .ref mma, .ref mwi, .ref mnu, .ref mmv])), (mwo, .inl (c_wo, 1875, .inl w_wo)), (mlu, .inl (c_lu, 20000, .inl w_lu)), (mfa, .inl (c_fa, 20000, .inl w_fa)), (mqu, .inl (c_qu, 20000, .inl w_qu))]) [0, 1, 2, 3, 4] rfl
    have hD9 := hD.sub (ws' := [(o0, .inr (8, [.int x_th, .ref mwo, .ref mim, .ref mhi, .ref mlu, .ref mtp, .int x_td, .ref mfv, .int x_sz, .int x_at, .int x_fr, .int x_to, .int x_va, .int x_fk, .int x_fp, .ref mfr, .ref mwt, .int x_wt, .int x_op, .int x_jo, .ref mfg, .ref mpl, .long x_dr, .ref mtm, .ref mfa, .ref mqu, .ref mmo, .ref mwy, .ref mwn, .ref mma, .ref mwi, .ref mnu, .ref mmv])), (mwo, .inl (c_wo, 1875, .inl w_wo)), (mlu, .inl (c_lu, 20000, .inl w_lu)), (mfa, .inl (c_fa, 20000, .inl w_fa)), (mqu, .inl (c_qu, 20000, .inl w_qu))]) [0, 1, 2, 3, 4] (by decide) rfl
    have hK9 := hK.sub (tys' := [(c_wo, .int), (c_lu, .int), (c_fa, .int), (c_qu, .int)]) [0, 1, 2, 3] rfl
    exact W.iret (v := (-2)) hx hb hr (fun t ht hW => ⟨⟨(-2), (), rfl, trivial, w_fa, w_qu, by rw [ht]; exact hP9, va_K.moved hW.alike hK9, hD9⟩, hS.F ht⟩) hS.2.2 dX10_islands_22
  ·
    have n_c_1035 : (r_1034.toInt : Int) ≠ 0 := c_ne rfl (by decide) c_1035
    have b_r_1034 : (1 : Int) ≤ r_1034.toInt ∧ r_1034.toInt ≤ 1 := r_ne1 b_r_1034 (by decide : (0 : Int) ≤ (0 : Int32).toInt ∧ (0 : Int32).toInt ≤ 0) n_c_1035 (by decide)
    obtain ⟨b_a1, g_1036⟩ := nz_r_1034 c_1035
    refine lv_iload_n hx hb dX10_islands_8 rfl (lv_at hl 2 rfl) ?_
    obtain ⟨z_1037, e_z_1037⟩ : ∃ y : Int64, y = a2.toInt64 := ⟨_, rfl⟩
    refine lv_i2l (v := z_1037) hx hb dX10_islands_9 e_z_1037.symm ?_
    obtain ⟨q_z_1037, b_z_1037⟩ := ti_i2l e_z_1037 (ti_rng a2)
    refine lv_lconst (v := 0) hx hb dX10_islands_10 (by decide) ?_
    refine lv_ldc2 (v := 2) hx hb hown (hts (.constantLong RX10 80 (2)) (List.mem_of_getElem? (i := 5) rfl)) dX10_islands_11 ?_
    refine vp_callSi (W.runS (As := [.long z_1037, .long 0, .long 2]) (rest := []) ⟨hx, hb, hml, hown, hts⟩ (kX10_in l dC dI z_1037 0 2 ) (va_cwS 3 hts gX10_islands__X10_in_S82 rfl rfl rfl hd_yX10_in.2 ⟨lel 1 2 rfl, lel 25 52 rfl⟩) ⟨pn_fb, pn_use⟩ rfl rfl hl.1 rfl (lv_room (Nat.le_of_ble_eq_true rfl)) dX10_islands_14 ⟨lel 0 0 rfl, lel 0 0 rfl⟩) (fun r_1038 h_r_1038 => ?_)
    obtain ⟨b_r_1038, nz_r_1038⟩ := h_r_1038
    have b_r_1038 : (0 : Int) ≤ r_1038.toInt ∧ r_1038.toInt ≤ 1 := b_r_1038
    refine lv_if_ne (tgt := 23) hx hb dX10_islands_17 (by decide) (fun c_1039 => ?_) (fun c_1039 => ?_)
    ·
      have n_c_1039 : (r_1038.toInt : Int) ≠ 0 := c_ne rfl (by decide) c_1039
      have b_r_1038 : (1 : Int) ≤ r_1038.toInt ∧ r_1038.toInt ≤ 1 := r_ne1 b_r_1038 (by decide : (0 : Int) ≤ (0 : Int32).toInt ∧ (0 : Int32).toInt ≤ 0) n_c_1039 (by decide)
      have g_1040 := nz_r_1038 c_1039
      have lt0_g_1040 := (by decide : (0 : Int64).toInt = 0)
      have lt1_g_1040 := (by decide : (2 : Int64).toInt = 2)
      have b_z_1037 : (0 : Int) ≤ z_1037.toInt ∧ z_1037.toInt ≤ 2 := by
        have q0 := b_z_1037
        have q1 := (by decide : (0 : Int) ≤ (0 : Int64).toInt ∧ (0 : Int64).toInt ≤ 0)
        have q2 := (by decide : (2 : Int) ≤ (2 : Int64).toInt ∧ (2 : Int64).toInt ≤ 2)
        omega
      have b_a2 : (0 : Int) ≤ a2.toInt ∧ a2.toInt ≤ 2 := by
        have q0 := b_z_1037; have q1 := q_z_1037; have q2 := (ti_rng a2); omega
      refine lv_aload_n hx hb dX10_islands_23 rfl (lv_at hl 0 rfl) ?_
      have hFc := va_free (wc := [(o0, .inr (8, [.int x_th, .ref mwo, .ref mim, .ref mhi, .ref mlu, .ref mtp, .int x_td, .ref mfv, .int x_sz, .int x_at, .int x_fr, .int x_to, .int x_va, .int x_fk, .int x_fp, .ref mfr, .ref mwt, .int x_wt, .int x_op, .int x_jo, .ref mfg, .ref mpl, .long x_dr, .ref mtm, .ref mfa, .ref mqu, .ref mmo, .ref mwy, .ref mwn, .ref mma, .ref mwi, .ref mnu, .ref mmv])), (mwo, .inl (c_wo, 1875, .inl w_wo)), (mfa, .inl (c_fa, 20000, .inl w_fa))]) hD hS hA [0, 1, 3] rfl
      refine va_callv (va_runV (As := []) (rest := []) ⟨hx, hb, hml, hown, hts⟩ (kX10_nowhereF l dC dI o0 x_th mwo mim mhi mlu mtp x_td mfv x_sz x_at x_fr x_to x_va x_fk x_fp mfr mwt x_wt x_op x_jo mfg mpl x_dr mtm mfa mqu mmo mwy mwn mma mwi mnu mmv c_wo c_fa w_wo w_fa ln bs tk lw li (s.heap.size) b_ln b_bs b_tk b_lw (hw0) (hw1) (hw2) (hw3) (hw4) (hwz)) (cwV 0 hts gX10_islands__X10_nowhereF_V436 rfl rfl rfl hd_yX10_nowhere ⟨lel 1 2 rfl, lel 21 52 rfl⟩) ⟨hw_fb, rcv_X10 hK hP (q0 := 0) rfl, (hw_use hP hD hK hN [0, 1, 3] rfl (by decide) rfl [0, 2] rfl)⟩ rfl rfl hl.1 rfl (lv_room (Nat.le_of_ble_eq_true rfl)) dX10_islands_24 ⟨lel 0 0 rfl, lel 0 0 rfl⟩) hS (fun q _ h => hFc q h) hFc (fun u_1042 t H1 locs ht hvm hw_r_1041 hB hz1 hk1 hS => ?_)
      obtain ⟨o0_1043, hf_1044, hP1, hK1, hD1⟩ := hB
      rw [ht] at hP1
      have hK1 := va_K.moved hvm.symm hK1
      obtain ⟨hP, hD⟩ := va_join (wr := [(mlu, .inl (c_lu, 20000, .inl w_lu)), (mqu, .inl (c_qu, 20000, .inl w_qu))]) (w1 := [(o0, .inr (8, [.int x_th, .ref mwo, .ref mim, .ref mhi, .ref mlu, .ref mtp, .int x_td, .ref mfv, .int x_sz, .int x_at, .int x_fr, .int x_to, .int x_va, .int x_fk, .int x_fp, .ref mfr, .ref mwt, .int x_wt, .int x_op, .int x_jo, .ref mfg, .ref mpl, .long x_dr, .ref mtm, .ref mfa, .ref mqu, .ref mmo, .ref mwy, .ref mwn, .ref mma, .ref mwi, .ref mnu, .ref mmv])), (mwo, .inl (c_wo, 1875, .inl w_wo)), (mfa, .inl (c_fa, 20000, .inl o0_1043))]) hP hD [0, 1, 3] [2, 4] rfl rfl (by decide) (by decide) hk1 hFc hP1 hD1
      have hK := (hK.sub (tys' := [(c_lu, .int), (c_qu, .int)]) [1, 3] rfl).app hK1
      generalize H1 = H at hP hS ⊢
      have hP := hP.sub (ws' := [(o0, .inr (8, [.int x_th, .ref mwo, .ref mim, .ref mhi, .ref mlu, .ref mtp, .int x_td, .ref mfv, .int x_sz, .int x_at, .int x_fr, .int x_to, .int x_va, .int x_fk, .int x_fp, .ref mfr, .ref mwt, .int x_wt, .int x_op, .int x_jo, .ref mfg, .ref mpl, .long x_dr, .ref mtm, .ref mfa, .ref mqu, .ref mmo, .ref mwy, .ref mwn, .ref mma, .ref mwi, .ref mnu, .ref mmv])), (mwo, .inl (c_wo, 1875, .inl w_wo)), (mlu, .inl (c_lu, 20000, .inl w_lu)), (mfa, .inl (c_fa, 20000, .inl o0_1043)), (mqu, .inl (c_qu, 20000, .inl w_qu))]) [2, 3, 0, 4, 1] rfl
      have hD := hD.sub (ws' := [(o0, .inr (8, [.int x_th, .ref mwo, .ref mim, .ref mhi, .ref mlu, .ref mtp, .int x_td, .ref mfv, .int x_sz, .int x_at, .int x_fr, .int x_to, .int x_va, .int x_fk, .int x_fp, .ref mfr, .ref mwt, .int x_wt, .int x_op, .int x_jo, .ref mfg, .ref mpl, .long x_dr, .ref mtm, .ref mfa, .ref mqu, .ref mmo, .ref mwy, .ref mwn, .ref mma, .ref mwi, .ref mnu, .ref mmv])), (mwo, .inl (c_wo, 1875, .inl w_wo)), (mlu, .inl (c_lu, 20000, .inl w_lu)), (mfa, .inl (c_fa, 20000, .inl o0_1043)), (mqu, .inl (c_qu, 20000, .inl w_qu))]) [2, 3, 0, 4, 1] (by decide) rfl
      have hK := hK.sub (tys' := [(c_wo, .int), (c_lu, .int), (c_fa, .int), (c_qu, .int)]) [2, 0, 3, 1] rfl
      have hP : va_P (dC, dI) vwCl [(o0, .inr (8, [.int x_th, .ref mwo, .ref mim, .ref mhi, .ref mlu, .ref mtp, .int x_td, .ref mfv, .int x_sz, .int x_at, .int x_fr, .int x_to, .int x_va, .int x_fk, .int x_fp, .ref mfr, .ref mwt, .int x_wt, .int x_op, .int x_jo, .ref mfg, .ref mpl, .long x_dr, .ref mtm, .ref mfa, .ref mqu, .ref mmo, .ref mwy, .ref mwn, .ref mma, .ref mwi, .ref mnu, .ref mmv])), (mwo, .inl (c_wo, 1875, .inl w_wo)), (mlu, .inl (c_lu, 20000, .inl w_lu)), (mfa, .inl (c_fa, 20000, .inl o0_1043)), (mqu, .inl (c_qu, 20000, .inl w_qu))] H := hP
      have hD : va_D A [(o0, .inr (8, [.int x_th, .ref mwo, .ref mim, .ref mhi, .ref mlu, .ref mtp, .int x_td, .ref mfv, .int x_sz, .int x_at, .int x_fr, .int x_to, .int x_va, .int x_fk, .int x_fp, .ref mfr, .ref mwt, .int x_wt, .int x_op, .int x_jo, .ref mfg, .ref mpl, .long x_dr, .ref mtm, .ref mfa, .ref mqu, .ref mmo, .ref mwy, .ref mwn, .ref mma, .ref mwi, .ref mnu, .ref mmv])), (mwo, .inl (c_wo, 1875, .inl w_wo)), (mlu, .inl (c_lu, 20000, .inl w_lu)), (mfa, .inl (c_fa, 20000, .inl o0_1043)), (mqu, .inl (c_qu, 20000, .inl w_qu))] := hD
      have hK : va_K (dC, dI) vwCl [(c_wo, .int), (c_lu, .int), (c_fa, .int), (c_qu, .int)] s := hK
      refine lv_iconst (v := 0) hx hb dX10_islands_27 (by decide) ?_
      refine lv_istore_n (lv' := [(3, .int 0), (0, .ref o0), (1, .int a1), (2, .int a2)]) hx hb dX10_islands_28 rfl hl (by decide) rfl (fun ls hl => ?_)
      refine lv_iconst (v := 0) hx hb dX10_islands_29 (by decide) ?_
      refine lv_istore (lv' := [(4, .int 0), (3, .int 0), (0, .ref o0), (1, .int a1), (2, .int a2)]) hx hb dX10_islands_30 hl (by decide) rfl (fun ls hl => ?_)
      refine lv_iconst (v := (-1)) hx hb dX10_islands_32 (by decide) ?_
      refine lv_istore (lv' := [(5, .int (-1)), (4, .int 0), (3, .int 0), (0, .ref o0), (1, .int a1), (2, .int a2)]) hx hb dX10_islands_33 hl (by decide) rfl (fun ls hl => ?_)
      refine lv_iconst (v := 0) hx hb dX10_islands_35 (by decide) ?_
      refine lv_istore (lv' := [(6, .int 0), (5, .int (-1)), (4, .int 0), (3, .int 0), (0, .ref o0), (1, .int a1), (2, .int a2)]) hx hb dX10_islands_36 hl (by decide) rfl (fun ls hl => ?_)
      refine loopW (σ := Int32 × Int32 × Int32 × Int32 × (Nat → Int32) × (Nat → Int32)) (fun v => (20000 - v.1.toInt).toNat) (fun v H locs ls => ((0 : Int) ≤ v.1.toInt ∧ v.1.toInt ≤ 20000) ∧ ((-1 : Int) ≤ v.2.1.toInt ∧ v.2.1.toInt ≤ 19999) ∧ ((0 : Int) ≤ v.2.2.1.toInt ∧ v.2.2.1.toInt ≤ 20000) ∧ va_P (dC, dI) vwCl [(o0, .inr (8, [.int x_th, .ref mwo, .ref mim, .ref mhi, .ref mlu, .ref mtp, .int x_td, .ref mfv, .int x_sz, .int x_at, .int x_fr, .int x_to, .int x_va, .int x_fk, .int x_fp, .ref mfr, .ref mwt, .int x_wt, .int x_op, .int x_jo, .ref mfg, .ref mpl, .long x_dr, .ref mtm, .ref mfa, .ref mqu, .ref mmo, .ref mwy, .ref mwn, .ref mma, .ref mwi, .ref mnu, .ref mmv])), (mwo, .inl (c_wo, 1875, .inl w_wo)), (mlu, .inl (c_lu, 20000, .inl w_lu)), (mfa, .inl (c_fa, 20000, .inl v.2.2.2.2.1)), (mqu, .inl (c_qu, 20000, .inl v.2.2.2.2.2))] H ∧ va_D A [(o0, .inr (8, [.int x_th, .ref mwo, .ref mim, .ref mhi, .ref mlu, .ref mtp, .int x_td, .ref mfv, .int x_sz, .int x_at, .int x_fr, .int x_to, .int x_va, .int x_fk, .int x_fp, .ref mfr, .ref mwt, .int x_wt, .int x_op, .int x_jo, .ref mfg, .ref mpl, .long x_dr, .ref mtm, .ref mfa, .ref mqu, .ref mmo, .ref mwy, .ref mwn, .ref mma, .ref mwi, .ref mnu, .ref mmv])), (mwo, .inl (c_wo, 1875, .inl w_wo)), (mlu, .inl (c_lu, 20000, .inl w_lu)), (mfa, .inl (c_fa, 20000, .inl v.2.2.2.2.1)), (mqu, .inl (c_qu, 20000, .inl v.2.2.2.2.2))] ∧ va_S A s.heap H locs ∧ lv_has ls 8 [(6, .int v.1), (5, .int v.2.1), (4, .int v.2.2.1), (3, .int v.2.2.2.1), (0, .ref o0), (1, .int a1), (2, .int a2)]) (fun v H locs ls hI ih_38_2006 => ?_) ((0 : Int32), (-1 : Int32), (0 : Int32), (0 : Int32), o0_1043, w_qu) ⟨(show (0 : Int) ≤ (0 : Int32).toInt ∧ (0 : Int32).toInt ≤ 20000 from (rg_w (by decide : (0 : Int) ≤ (0 : Int32).toInt ∧ (0 : Int32).toInt ≤ 0) (by decide) (by decide))), (show (-1 : Int) ≤ (-1 : Int32).toInt ∧ (-1 : Int32).toInt ≤ 19999 from (rg_w (by decide : (-1 : Int) ≤ ((-1) : Int32).toInt ∧ ((-1) : Int32).toInt ≤ -1) (by decide) (by decide))), (show (0 : Int) ≤ (0 : Int32).toInt ∧ (0 : Int32).toInt ≤ 20000 from (rg_w (by decide : (0 : Int) ≤ (0 : Int32).toInt ∧ (0 : Int32).toInt ≤ 0) (by decide) (by decide))), hP, hD, hS, lv_sub hl [0, 1, 2, 3, 4, 5, 6] rfl⟩
      obtain ⟨y_1101, y_1102, y_1103, y_1104, f_1105, f_1106⟩ := v
      obtain ⟨b_y_1101, b_y_1102, b_y_1103, hP, hD, hS, hl⟩ := hI
      have b_y_1101 : (0 : Int) ≤ y_1101.toInt ∧ y_1101.toInt ≤ 20000 := b_y_1101
      have b_y_1102 : (-1 : Int) ≤ y_1102.toInt ∧ y_1102.toInt ≤ 19999 := b_y_1102
      have b_y_1103 : (0 : Int) ≤ y_1103.toInt ∧ y_1103.toInt ≤ 20000 := b_y_1103
      have hP : va_P (dC, dI) vwCl [(o0, .inr (8, [.int x_th, .ref mwo, .ref mim, .ref mhi, .ref mlu, .ref mtp, .int x_td, .ref mfv, .int x_sz, .int x_at, .int x_fr, .int x_to, .int x_va, .int x_fk, .int x_fp, .ref mfr, .ref mwt, .int x_wt, .int x_op, .int x_jo, .ref mfg, .ref mpl, .long x_dr, .ref mtm, .ref mfa, .ref mqu, .ref mmo, .ref mwy, .ref mwn, .ref mma, .ref mwi, .ref mnu, .ref mmv])), (mwo, .inl (c_wo, 1875, .inl w_wo)), (mlu, .inl (c_lu, 20000, .inl w_lu)), (mfa, .inl (c_fa, 20000, .inl f_1105)), (mqu, .inl (c_qu, 20000, .inl f_1106))] H := hP
      have hD : va_D A [(o0, .inr (8, [.int x_th, .ref mwo, .ref mim, .ref mhi, .ref mlu, .ref mtp, .int x_td, .ref mfv, .int x_sz, .int x_at, .int x_fr, .int x_to, .int x_va, .int x_fk, .int x_fp, .ref mfr, .ref mwt, .int x_wt, .int x_op, .int x_jo, .ref mfg, .ref mpl, .long x_dr, .ref mtm, .ref mfa, .ref mqu, .ref mmo, .ref mwy, .ref mwn, .ref mma, .ref mwi, .ref mnu, .ref mmv])), (mwo, .inl (c_wo, 1875, .inl w_wo)), (mlu, .inl (c_lu, 20000, .inl w_lu)), (mfa, .inl (c_fa, 20000, .inl f_1105)), (mqu, .inl (c_qu, 20000, .inl f_1106))] := hD
      have hl : lv_has ls 8 [(6, .int y_1101), (5, .int y_1102), (4, .int y_1103), (3, .int y_1104), (0, .ref o0), (1, .int a1), (2, .int a2)] := hl
      refine lv_iload hx hb dX10_islands_38 (lv_at hl 0 rfl) ?_
      refine lv_aload_n hx hb dX10_islands_40 rfl (lv_at hl 4 rfl) ?_
      refine va_get (D := (dC, dI)) (ci := 8) (v := .ref mwo) (C := RX10) (T := TX10) (N := 33) hx hb hts iX10_islands_X10 hown hK hP 0 rfl rfl 1 (by decide) (hts (.fieldLink RX10 9 "LuckyTicketModel" "world" "[I") (List.mem_of_getElem? (i := 11) rfl)) (fun _ h9 => h9) rfl dX10_islands_41 ?_
      refine lv_iconst (v := 2) hx hb dX10_islands_44 (by decide) ?_
      refine va_iald hx hb hK hP 1 0 rfl rfl (vp_in_b (by decide : (2 : Int) ≤ (2 : Int32).toInt ∧ (2 : Int32).toInt ≤ 2) (by decide) (by decide)) dX10_islands_45 ?_
      refine lv_topi (fun z_2007 e_z_2007 => ?_)
      obtain rfl : tk = z_2007 := (e_z_2007.trans hw2).symm
      refine lv_icmp_ge (tgt := 116) hx hb dX10_islands_46 (by decide) (fun c_2008 => ?_) (fun c_2008 => ?_)
      ·
        have n_c_2008 : (tk.toInt : Int) ≤ y_1101.toInt := c_ge rfl rfl c_2008
        refine lv_iload_n hx hb dX10_islands_116 rfl (lv_at hl 6 rfl) ?_
        refine lv_if_ne (tgt := 124) hx hb dX10_islands_117 (by decide) (fun c_2037 => ?_) (fun c_2037 => ?_)
        ·
          have n_c_2037 : (a2.toInt : Int) ≠ 0 := c_ne rfl (by decide) c_2037
          have b_a2 : (1 : Int) ≤ a2.toInt ∧ a2.toInt ≤ 2 := r_ne1 b_a2 (by decide : (0 : Int) ≤ (0 : Int32).toInt ∧ (0 : Int32).toInt ≤ 0) n_c_2037 (by decide)
          refine lv_iload_n hx hb dX10_islands_124 rfl (lv_at hl 6 rfl) ?_
          refine lv_iconst (v := 1) hx hb dX10_islands_125 (by decide) ?_
          refine lv_icmp_ne (tgt := 134) hx hb dX10_islands_126 (by decide) (fun c_2038 => ?_) (fun c_2038 => ?_)
          ·
            have n_c_2038 : (a2.toInt : Int) ≠ 1 := c_ne rfl (by decide) c_2038
            have b_a2 : (2 : Int) ≤ a2.toInt ∧ a2.toInt ≤ 2 := r_ne1 b_a2 (by decide : (1 : Int) ≤ (1 : Int32).toInt ∧ (1 : Int32).toInt ≤ 1) n_c_2038 (by decide)
            refine lv_iload hx hb dX10_islands_134 (lv_at hl 1 rfl) ?_
            have hP9 := hP.sub (ws' := [(o0, .inr (8, [.int x_th, .ref mwo, .ref mim, .ref mhi, .ref mlu, .ref mtp, .int x_td, .ref mfv, .int x_sz, .int x_at, .int x_fr, .int x_to, .int x_va, .int x_fk, .int x_fp, .ref mfr, .ref mwt, .int x_wt, .int x_op, .int x_jo, .ref mfg, .ref mpl, .long x_dr, .ref mtm, .ref mfa, .ref mqu, .ref mmo, .ref mwy, .ref mwn, .ref mma, .ref mwi, .ref mnu, .ref mmv])), (mwo, .inl (c_wo, 1875, .inl w_wo)), (mlu, .inl (c_lu, 20000, .inl w_lu)), (mfa, .inl (c_fa, 20000, .inl f_1105)), (mqu, .inl (c_qu, 20000, .inl f_1106))]) [0, 1, 2, 3, 4] rfl
            have hD9 := hD.sub (ws' := [(o0, .inr (8, [.int x_th, .ref mwo, .ref mim, .ref mhi, .ref mlu, .ref mtp, .int x_td, .ref mfv, .int x_sz, .int x_at, .int x_fr, .int x_to, .int x_va, .int x_fk, .int x_fp, .ref mfr, .ref mwt, .int x_wt, .int x_op, .int x_jo, .ref mfg, .ref mpl, .long x_dr, .ref mtm, .ref mfa, .ref mqu, .ref mmo, .ref mwy, .ref mwn, .ref mma, .ref mwi, .ref mnu, .ref mmv])), (mwo, .inl (c_wo, 1875, .inl w_wo)), (mlu, .inl (c_lu, 20000, .inl w_lu)), (mfa, .inl (c_fa, 20000, .inl f_1105)), (mqu, .inl (c_qu, 20000, .inl f_1106))]) [0, 1, 2, 3, 4] (by decide) rfl
            have hK9 := hK.sub (tys' := [(c_wo, .int), (c_lu, .int), (c_fa, .int), (c_qu, .int)]) [0, 1, 2, 3] rfl
            exact W.iret (v := y_1102) hx hb hr (fun t ht hW => ⟨⟨y_1102, (), rfl, trivial, f_1105, f_1106, by rw [ht]; exact hP9, va_K.moved hW.alike hK9, hD9⟩, hS.F ht⟩) hS.2.2 dX10_islands_136
          ·
            have n_c_2038 : (a2.toInt : Int) = 1 := c_eq rfl (by decide) c_2038
            have b_a2 : (1 : Int) ≤ a2.toInt ∧ a2.toInt ≤ 1 := r_eq1 b_a2 (by decide : (1 : Int) ≤ (1 : Int32).toInt ∧ (1 : Int32).toInt ≤ 1) n_c_2038 (by decide)
            refine lv_iload hx hb dX10_islands_129 (lv_at hl 2 rfl) ?_
            refine lv_goto (tgt := 136) hx hb dX10_islands_131 (by decide) ?_
            have hP9 := hP.sub (ws' := [(o0, .inr (8, [.int x_th, .ref mwo, .ref mim, .ref mhi, .ref mlu, .ref mtp, .int x_td, .ref mfv, .int x_sz, .int x_at, .int x_fr, .int x_to, .int x_va, .int x_fk, .int x_fp, .ref mfr, .ref mwt, .int x_wt, .int x_op, .int x_jo, .ref mfg, .ref mpl, .long x_dr, .ref mtm, .ref mfa, .ref mqu, .ref mmo, .ref mwy, .ref mwn, .ref mma, .ref mwi, .ref mnu, .ref mmv])), (mwo, .inl (c_wo, 1875, .inl w_wo)), (mlu, .inl (c_lu, 20000, .inl w_lu)), (mfa, .inl (c_fa, 20000, .inl f_1105)), (mqu, .inl (c_qu, 20000, .inl f_1106))]) [0, 1, 2, 3, 4] rfl
            have hD9 := hD.sub (ws' := [(o0, .inr (8, [.int x_th, .ref mwo, .ref mim, .ref mhi, .ref mlu, .ref mtp, .int x_td, .ref mfv, .int x_sz, .int x_at, .int x_fr, .int x_to, .int x_va, .int x_fk, .int x_fp, .ref mfr, .ref mwt, .int x_wt, .int x_op, .int x_jo, .ref mfg, .ref mpl, .long x_dr, .ref mtm, .ref mfa, .ref mqu, .ref mmo, .ref mwy, .ref mwn, .ref mma, .ref mwi, .ref mnu, .ref mmv])), (mwo, .inl (c_wo, 1875, .inl w_wo)), (mlu, .inl (c_lu, 20000, .inl w_lu)), (mfa, .inl (c_fa, 20000, .inl f_1105)), (mqu, .inl (c_qu, 20000, .inl f_1106))]) [0, 1, 2, 3, 4] (by decide) rfl
            have hK9 := hK.sub (tys' := [(c_wo, .int), (c_lu, .int), (c_fa, .int), (c_qu, .int)]) [0, 1, 2, 3] rfl
            exact W.iret (v := y_1103) hx hb hr (fun t ht hW => ⟨⟨y_1103, (), rfl, trivial, f_1105, f_1106, by rw [ht]; exact hP9, va_K.moved hW.alike hK9, hD9⟩, hS.F ht⟩) hS.2.2 dX10_islands_136
        ·
          have n_c_2037 : (a2.toInt : Int) = 0 := c_eq rfl (by decide) c_2037
          have b_a2 : (0 : Int) ≤ a2.toInt ∧ a2.toInt ≤ 0 := r_eq1 b_a2 (by decide : (0 : Int) ≤ (0 : Int32).toInt ∧ (0 : Int32).toInt ≤ 0) n_c_2037 (by decide)
          refine lv_iload_n hx hb dX10_islands_120 rfl (lv_at hl 3 rfl) ?_
          refine lv_goto (tgt := 136) hx hb dX10_islands_121 (by decide) ?_
          have hP9 := hP.sub (ws' := [(o0, .inr (8, [.int x_th, .ref mwo, .ref mim, .ref mhi, .ref mlu, .ref mtp, .int x_td, .ref mfv, .int x_sz, .int x_at, .int x_fr, .int x_to, .int x_va, .int x_fk, .int x_fp, .ref mfr, .ref mwt, .int x_wt, .int x_op, .int x_jo, .ref mfg, .ref mpl, .long x_dr, .ref mtm, .ref mfa, .ref mqu, .ref mmo, .ref mwy, .ref mwn, .ref mma, .ref mwi, .ref mnu, .ref mmv])), (mwo, .inl (c_wo, 1875, .inl w_wo)), (mlu, .inl (c_lu, 20000, .inl w_lu)), (mfa, .inl (c_fa, 20000, .inl f_1105)), (mqu, .inl (c_qu, 20000, .inl f_1106))]) [0, 1, 2, 3, 4] rfl
          have hD9 := hD.sub (ws' := [(o0, .inr (8, [.int x_th, .ref mwo, .ref mim, .ref mhi, .ref mlu, .ref mtp, .int x_td, .ref mfv, .int x_sz, .int x_at, .int x_fr, .int x_to, .int x_va, .int x_fk, .int x_fp, .ref mfr, .ref mwt, .int x_wt, .int x_op, .int x_jo, .ref mfg, .ref mpl, .long x_dr, .ref mtm, .ref mfa, .ref mqu, .ref mmo, .ref mwy, .ref mwn, .ref mma, .ref mwi, .ref mnu, .ref mmv])), (mwo, .inl (c_wo, 1875, .inl w_wo)), (mlu, .inl (c_lu, 20000, .inl w_lu)), (mfa, .inl (c_fa, 20000, .inl f_1105)), (mqu, .inl (c_qu, 20000, .inl f_1106))]) [0, 1, 2, 3, 4] (by decide) rfl
          have hK9 := hK.sub (tys' := [(c_wo, .int), (c_lu, .int), (c_fa, .int), (c_qu, .int)]) [0, 1, 2, 3] rfl
          exact W.iret (v := y_1104) hx hb hr (fun t ht hW => ⟨⟨y_1104, (), rfl, trivial, f_1105, f_1106, by rw [ht]; exact hP9, va_K.moved hW.alike hK9, hD9⟩, hS.F ht⟩) hS.2.2 dX10_islands_136
      ·
        have n_c_2008 : (y_1101.toInt : Int) < tk.toInt := c_nge rfl rfl c_2008
        have b_y_1101 : (0 : Int) ≤ y_1101.toInt ∧ y_1101.toInt ≤ 19999 := r_lt1 b_y_1101 b_tk n_c_2008 (by decide)
        have b_tk : (1 : Int) ≤ tk.toInt ∧ tk.toInt ≤ 20000 := r_lt2 b_y_1101 b_tk n_c_2008 (by decide)
        refine lv_aload_n hx hb dX10_islands_49 rfl (lv_at hl 4 rfl) ?_
        refine lv_iload_n hx hb dX10_islands_50 rfl (lv_at hl 5 rfl) ?_
        refine lv_iload hx hb dX10_islands_51 (lv_at hl 0 rfl) ?_
        refine vp_callSi (W.runV (As := [.int a1, .int y_1101]) (rest := []) ⟨hx, hb, hml, hown, hts⟩ (kX10_isLucky l dC dI o0 x_th mwo mim mhi mlu mtp x_td mfv x_sz x_at x_fr x_to x_va x_fk x_fp mfr mwt x_wt x_op x_jo mfg mpl x_dr mtm mfa mqu mmo mwy mwn mma mwi mnu mmv c_wo c_lu w_wo w_lu ln bs tk lw li a1 y_1101 b_ln b_bs (rg_w b_tk (by decide) (by decide)) b_lw b_y_1101 (hw0) (hw1) (hw2) (hw3) (hw4) (hwz)) (cwV 2 hts gX10_islands__X10_isLucky_V316 rfl rfl rfl hd_yX10_isLucky ⟨lel 1 2 rfl, lel 22 52 rfl⟩) ⟨pw_fb, rcv_X10 hK hP (q0 := 0) rfl, (pw_use hP hK hN [0, 1, 2] rfl [0, 1] rfl)⟩ rfl rfl hl.1 rfl (lv_room (Nat.le_of_ble_eq_true rfl)) dX10_islands_53 ⟨lel 0 0 rfl, lel 0 0 rfl⟩) (fun r_2039 h_r_2039 => ?_)
        have b_r_2039 := h_r_2039
        have b_r_2039 : (0 : Int) ≤ r_2039.toInt ∧ r_2039.toInt ≤ 1 := b_r_2039
        refine cutW (σ := Int32 × Int32 × Int32 × (Nat → Int32) × (Nat → Int32)) (pc2 := 110) (st2 := fun v => []) (cells2 := 0) (slots2 := 0) (fun v H locs ls => ((-1 : Int) ≤ v.1.toInt ∧ v.1.toInt ≤ 19999) ∧ ((0 : Int) ≤ v.2.1.toInt ∧ v.2.1.toInt ≤ 20000) ∧ va_P (dC, dI) vwCl [(o0, .inr (8, [.int x_th, .ref mwo, .ref mim, .ref mhi, .ref mlu, .ref mtp, .int x_td, .ref mfv, .int x_sz, .int x_at, .int x_fr, .int x_to, .int x_va, .int x_fk, .int x_fp, .ref mfr, .ref mwt, .int x_wt, .int x_op, .int x_jo, .ref mfg, .ref mpl, .long x_dr, .ref mtm, .ref mfa, .ref mqu, .ref mmo, .ref mwy, .ref mwn, .ref mma, .ref mwi, .ref mnu, .ref mmv])), (mwo, .inl (c_wo, 1875, .inl w_wo)), (mlu, .inl (c_lu, 20000, .inl w_lu)), (mfa, .inl (c_fa, 20000, .inl v.2.2.2.1)), (mqu, .inl (c_qu, 20000, .inl v.2.2.2.2))] H ∧ va_D A [(o0, .inr (8, [.int x_th, .ref mwo, .ref mim, .ref mhi, .ref mlu, .ref mtp, .int x_td, .ref mfv, .int x_sz, .int x_at, .int x_fr, .int x_to, .int x_va, .int x_fk, .int x_fp, .ref mfr, .ref mwt, .int x_wt, .int x_op, .int x_jo, .ref mfg, .ref mpl, .long x_dr, .ref mtm, .ref mfa, .ref mqu, .ref mmo, .ref mwy, .ref mwn, .ref mma, .ref mwi, .ref mnu, .ref mmv])), (mwo, .inl (c_wo, 1875, .inl w_wo)), (mlu, .inl (c_lu, 20000, .inl w_lu)), (mfa, .inl (c_fa, 20000, .inl v.2.2.2.1)), (mqu, .inl (c_qu, 20000, .inl v.2.2.2.2))] ∧ va_S A s.heap H locs ∧ lv_has ls 8 [(6, .int y_1101), (5, .int v.1), (4, .int v.2.1), (3, .int v.2.2.1), (0, .ref o0), (1, .int a1), (2, .int a2)]) (fun v H locs ls hI => ?_) (fun hj_110_2055 => ?_)
        ·
          obtain ⟨y_2051, y_2052, y_2053, f_2054, f_2055⟩ := v
          obtain ⟨b_y_2051, b_y_2052, hP, hD, hS, hl⟩ := hI
          have b_y_2051 : (-1 : Int) ≤ y_2051.toInt ∧ y_2051.toInt ≤ 19999 := b_y_2051
          have b_y_2052 : (0 : Int) ≤ y_2052.toInt ∧ y_2052.toInt ≤ 20000 := b_y_2052
          have hP : va_P (dC, dI) vwCl [(o0, .inr (8, [.int x_th, .ref mwo, .ref mim, .ref mhi, .ref mlu, .ref mtp, .int x_td, .ref mfv, .int x_sz, .int x_at, .int x_fr, .int x_to, .int x_va, .int x_fk, .int x_fp, .ref mfr, .ref mwt, .int x_wt, .int x_op, .int x_jo, .ref mfg, .ref mpl, .long x_dr, .ref mtm, .ref mfa, .ref mqu, .ref mmo, .ref mwy, .ref mwn, .ref mma, .ref mwi, .ref mnu, .ref mmv])), (mwo, .inl (c_wo, 1875, .inl w_wo)), (mlu, .inl (c_lu, 20000, .inl w_lu)), (mfa, .inl (c_fa, 20000, .inl f_2054)), (mqu, .inl (c_qu, 20000, .inl f_2055))] H := hP
          have hD : va_D A [(o0, .inr (8, [.int x_th, .ref mwo, .ref mim, .ref mhi, .ref mlu, .ref mtp, .int x_td, .ref mfv, .int x_sz, .int x_at, .int x_fr, .int x_to, .int x_va, .int x_fk, .int x_fp, .ref mfr, .ref mwt, .int x_wt, .int x_op, .int x_jo, .ref mfg, .ref mpl, .long x_dr, .ref mtm, .ref mfa, .ref mqu, .ref mmo, .ref mwy, .ref mwn, .ref mma, .ref mwi, .ref mnu, .ref mmv])), (mwo, .inl (c_wo, 1875, .inl w_wo)), (mlu, .inl (c_lu, 20000, .inl w_lu)), (mfa, .inl (c_fa, 20000, .inl f_2054)), (mqu, .inl (c_qu, 20000, .inl f_2055))] := hD
          have hl : lv_has ls 8 [(6, .int y_1101), (5, .int y_2051), (4, .int y_2052), (3, .int y_2053), (0, .ref o0), (1, .int a1), (2, .int a2)] := hl
          obtain ⟨z_2056, e_z_2056⟩ : ∃ y : Int32, y = y_1101 + 1 := ⟨_, rfl⟩
          refine lv_iinc (v := z_2056) (lv' := [(6, .int z_2056), (5, .int y_2051), (4, .int y_2052), (3, .int y_2053), (0, .ref o0), (1, .int a1), (2, .int a2)]) hx hb dX10_islands_110 hl (k := 0) rfl (by rw [e_z_2056]; rfl) (by decide) rfl (fun ls hl => ?_)
          obtain ⟨q_z_2056, b_z_2056⟩ := ti_add (lo := 1) (hi := 20000) e_z_2056 rfl (by decide : (1 : Int32).toInt = 1) b_y_1101 (by decide : (1 : Int) ≤ (1 : Int32).toInt ∧ (1 : Int32).toInt ≤ 1) (by decide)
          refine lv_goto (tgt := 38) hx hb dX10_islands_113 (by decide) ?_
          exact ih_38_2006 (z_2056, y_2051, y_2052, y_2053, f_2054, f_2055) _ _ _ ⟨(show (0 : Int) ≤ z_2056.toInt ∧ z_2056.toInt ≤ 20000 from (rg_w b_z_2056 (by decide) (by decide))), (show (-1 : Int) ≤ y_2051.toInt ∧ y_2051.toInt ≤ 19999 from b_y_2051), (show (0 : Int) ≤ y_2052.toInt ∧ y_2052.toInt ≤ 20000 from b_y_2052), hP, hD, hS, lv_sub hl [0, 1, 2, 3, 4, 5, 6] rfl⟩ (show (20000 - z_2056.toInt).toNat < (20000 - y_1101.toInt).toNat by omega)
        ·
          refine lv_if_eq (tgt := 110) hx hb dX10_islands_56 (by decide) (fun c_2040 => ?_) (fun c_2040 => ?_)
          ·
            have n_c_2040 : (r_2039.toInt : Int) = 0 := c_eq rfl (by decide) c_2040
            have b_r_2039 : (0 : Int) ≤ r_2039.toInt ∧ r_2039.toInt ≤ 0 := r_eq1 b_r_2039 (by decide : (0 : Int) ≤ (0 : Int32).toInt ∧ (0 : Int32).toInt ≤ 0) n_c_2040 (by decide)
            exact hj_110_2055 (y_1102, y_1103, y_1104, f_1105, f_1106) _ _ _ ⟨(show (-1 : Int) ≤ y_1102.toInt ∧ y_1102.toInt ≤ 19999 from b_y_1102), (show (0 : Int) ≤ y_1103.toInt ∧ y_1103.toInt ≤ 20000 from b_y_1103), hP, hD, hS, lv_sub hl [0, 1, 2, 3, 4, 5, 6] rfl⟩
          ·
            have n_c_2040 : (r_2039.toInt : Int) ≠ 0 := c_ne rfl (by decide) c_2040
            have b_r_2039 : (1 : Int) ≤ r_2039.toInt ∧ r_2039.toInt ≤ 1 := r_ne1 b_r_2039 (by decide : (0 : Int) ≤ (0 : Int32).toInt ∧ (0 : Int32).toInt ≤ 0) n_c_2040 (by decide)
            refine lv_aload_n hx hb dX10_islands_59 rfl (lv_at hl 4 rfl) ?_
            refine va_get (D := (dC, dI)) (ci := 8) (v := .ref mfa) (C := RX10) (T := TX10) (N := 33) hx hb hts iX10_islands_X10 hown hK hP 0 rfl rfl 24 (by decide) (hts (.fieldLink RX10 49 "LuckyTicketModel" "far" "[I") (List.mem_of_getElem? (i := 15) rfl)) (fun _ h9 => h9) rfl dX10_islands_60 ?_
            refine lv_iload hx hb dX10_islands_63 (lv_at hl 0 rfl) ?_
            refine va_iald hx hb hK hP 3 2 rfl rfl (vp_in_b b_y_1101 (by decide) (by decide)) dX10_islands_65 ?_
            refine lv_topi (fun z_2057 e_z_2057 => ?_)
            refine lv_iconst (v := (-1)) hx hb dX10_islands_66 (by decide) ?_
            refine lv_icmp_eq (tgt := 73) hx hb dX10_islands_67 (by decide) (fun c_2058 => ?_) (fun c_2058 => ?_)
            ·
              have n_c_2058 : (z_2057.toInt : Int) = (-1) := c_eq rfl (by decide) c_2058
              have b_z_2057 : (-1 : Int) ≤ z_2057.toInt ∧ z_2057.toInt ≤ -1 := r_eq1 (ti_rng z_2057) (by decide : (-1 : Int) ≤ ((-1) : Int32).toInt ∧ ((-1) : Int32).toInt ≤ -1) n_c_2058 (by decide)
              refine lv_aload_n hx hb dX10_islands_73 rfl (lv_at hl 4 rfl) ?_
              refine lv_iload_n hx hb dX10_islands_74 rfl (lv_at hl 5 rfl) ?_
              refine lv_iload hx hb dX10_islands_75 (lv_at hl 0 rfl) ?_
              have hFc := va_free (wc := [(o0, .inr (8, [.int x_th, .ref mwo, .ref mim, .ref mhi, .ref mlu, .ref mtp, .int x_td, .ref mfv, .int x_sz, .int x_at, .int x_fr, .int x_to, .int x_va, .int x_fk, .int x_fp, .ref mfr, .ref mwt, .int x_wt, .int x_op, .int x_jo, .ref mfg, .ref mpl, .long x_dr, .ref mtm, .ref mfa, .ref mqu, .ref mmo, .ref mwy, .ref mwn, .ref mma, .ref mwi, .ref mnu, .ref mmv])), (mwo, .inl (c_wo, 1875, .inl w_wo)), (mfa, .inl (c_fa, 20000, .inl f_1105)), (mqu, .inl (c_qu, 20000, .inl f_1106)), (mlu, .inl (c_lu, 20000, .inl w_lu))]) hD hS hA [0, 1, 3, 4, 2] rfl
              refine va_calli (va_runV (As := [.int a1, .int y_1101]) (rest := []) ⟨hx, hb, hml, hown, hts⟩ (kX10_walksFrom l dC dI o0 x_th mwo mim mhi mlu mtp x_td mfv x_sz x_at x_fr x_to x_va x_fk x_fp mfr mwt x_wt x_op x_jo mfg mpl x_dr mtm mfa mqu mmo mwy mwn mma mwi mnu mmv c_wo c_fa c_qu c_lu w_wo f_1105 f_1106 w_lu ln bs tk lw li a1 y_1101 (H.size) b_ln b_bs (rg_w b_tk (by decide) (by decide)) b_lw b_y_1101 (hw0) (hw1) (hw2) (hw3) (hw4) (hwz) (e_z_2057.symm.trans c_2058) (htp.resolve_left (by omega)) (by omega)) (cwV 2 hts gX10_islands__X10_walksFrom_V439 rfl rfl rfl hd_yX10_walksFrom ⟨lel 2 2 rfl, lel 52 52 rfl⟩) ⟨hw_fb, rcv_X10 hK hP (q0 := 0) rfl, (hw_use hP hD hK hN [0, 1, 3, 4, 2] rfl (by decide) rfl [0, 2, 3, 1] rfl)⟩ rfl rfl hl.1 rfl (lv_room (Nat.le_of_ble_eq_true rfl)) dX10_islands_77 ⟨lel 0 0 rfl, lel 0 0 rfl⟩) hS (fun q _ h => hFc q h) hFc (fun r_2059 u_2060 t H1 locs ht hvm hw_r_2059 hB hz1 hk1 hS => ?_)
              obtain ⟨o0_2061, o1_2062, hP1, hK1, hD1⟩ := hB
              rw [ht] at hP1
              have hK1 := va_K.moved hvm.symm hK1
              obtain ⟨hP, hD⟩ := va_join (wr := []) (w1 := [(o0, .inr (8, [.int x_th, .ref mwo, .ref mim, .ref mhi, .ref mlu, .ref mtp, .int x_td, .ref mfv, .int x_sz, .int x_at, .int x_fr, .int x_to, .int x_va, .int x_fk, .int x_fp, .ref mfr, .ref mwt, .int x_wt, .int x_op, .int x_jo, .ref mfg, .ref mpl, .long x_dr, .ref mtm, .ref mfa, .ref mqu, .ref mmo, .ref mwy, .ref mwn, .ref mma, .ref mwi, .ref mnu, .ref mmv])), (mwo, .inl (c_wo, 1875, .inl w_wo)), (mfa, .inl (c_fa, 20000, .inl o0_2061)), (mqu, .inl (c_qu, 20000, .inl o1_2062)), (mlu, .inl (c_lu, 20000, .inl w_lu))]) hP hD [0, 1, 3, 4, 2] [] rfl rfl (by decide) (by decide) hk1 hFc hP1 hD1
              have hK := (hK.sub (tys' := []) [] rfl).app hK1
              generalize H1 = H at hP hS ⊢
              have hP := hP.sub (ws' := [(o0, .inr (8, [.int x_th, .ref mwo, .ref mim, .ref mhi, .ref mlu, .ref mtp, .int x_td, .ref mfv, .int x_sz, .int x_at, .int x_fr, .int x_to, .int x_va, .int x_fk, .int x_fp, .ref mfr, .ref mwt, .int x_wt, .int x_op, .int x_jo, .ref mfg, .ref mpl, .long x_dr, .ref mtm, .ref mfa, .ref mqu, .ref mmo, .ref mwy, .ref mwn, .ref mma, .ref mwi, .ref mnu, .ref mmv])), (mwo, .inl (c_wo, 1875, .inl w_wo)), (mlu, .inl (c_lu, 20000, .inl w_lu)), (mfa, .inl (c_fa, 20000, .inl o0_2061)), (mqu, .inl (c_qu, 20000, .inl o1_2062))]) [0, 1, 4, 2, 3] rfl
              have hD := hD.sub (ws' := [(o0, .inr (8, [.int x_th, .ref mwo, .ref mim, .ref mhi, .ref mlu, .ref mtp, .int x_td, .ref mfv, .int x_sz, .int x_at, .int x_fr, .int x_to, .int x_va, .int x_fk, .int x_fp, .ref mfr, .ref mwt, .int x_wt, .int x_op, .int x_jo, .ref mfg, .ref mpl, .long x_dr, .ref mtm, .ref mfa, .ref mqu, .ref mmo, .ref mwy, .ref mwn, .ref mma, .ref mwi, .ref mnu, .ref mmv])), (mwo, .inl (c_wo, 1875, .inl w_wo)), (mlu, .inl (c_lu, 20000, .inl w_lu)), (mfa, .inl (c_fa, 20000, .inl o0_2061)), (mqu, .inl (c_qu, 20000, .inl o1_2062))]) [0, 1, 4, 2, 3] (by decide) rfl
              have hK := hK.sub (tys' := [(c_wo, .int), (c_lu, .int), (c_fa, .int), (c_qu, .int)]) [0, 3, 1, 2] rfl
              have hP : va_P (dC, dI) vwCl [(o0, .inr (8, [.int x_th, .ref mwo, .ref mim, .ref mhi, .ref mlu, .ref mtp, .int x_td, .ref mfv, .int x_sz, .int x_at, .int x_fr, .int x_to, .int x_va, .int x_fk, .int x_fp, .ref mfr, .ref mwt, .int x_wt, .int x_op, .int x_jo, .ref mfg, .ref mpl, .long x_dr, .ref mtm, .ref mfa, .ref mqu, .ref mmo, .ref mwy, .ref mwn, .ref mma, .ref mwi, .ref mnu, .ref mmv])), (mwo, .inl (c_wo, 1875, .inl w_wo)), (mlu, .inl (c_lu, 20000, .inl w_lu)), (mfa, .inl (c_fa, 20000, .inl o0_2061)), (mqu, .inl (c_qu, 20000, .inl o1_2062))] H := hP
              have hD : va_D A [(o0, .inr (8, [.int x_th, .ref mwo, .ref mim, .ref mhi, .ref mlu, .ref mtp, .int x_td, .ref mfv, .int x_sz, .int x_at, .int x_fr, .int x_to, .int x_va, .int x_fk, .int x_fp, .ref mfr, .ref mwt, .int x_wt, .int x_op, .int x_jo, .ref mfg, .ref mpl, .long x_dr, .ref mtm, .ref mfa, .ref mqu, .ref mmo, .ref mwy, .ref mwn, .ref mma, .ref mwi, .ref mnu, .ref mmv])), (mwo, .inl (c_wo, 1875, .inl w_wo)), (mlu, .inl (c_lu, 20000, .inl w_lu)), (mfa, .inl (c_fa, 20000, .inl o0_2061)), (mqu, .inl (c_qu, 20000, .inl o1_2062))] := hD
              have hK : va_K (dC, dI) vwCl [(c_wo, .int), (c_lu, .int), (c_fa, .int), (c_qu, .int)] s := hK
              have b_r_2059 := hw_r_2059
              have b_r_2059 : (1 : Int) ≤ r_2059.toInt ∧ r_2059.toInt ≤ 20000 := b_r_2059
              refine lv_istore (lv' := [(7, .int r_2059), (6, .int y_1101), (5, .int y_1102), (4, .int y_1103), (3, .int y_1104), (0, .ref o0), (1, .int a1), (2, .int a2)]) hx hb dX10_islands_80 hl (by decide) rfl (fun ls hl => ?_)
              obtain ⟨z_2063, e_z_2063⟩ : ∃ y : Int32, y = y_1104 + 1 := ⟨_, rfl⟩
              refine lv_iinc (v := z_2063) (lv' := [(3, .int z_2063), (7, .int r_2059), (6, .int y_1101), (5, .int y_1102), (4, .int y_1103), (0, .ref o0), (1, .int a1), (2, .int a2)]) hx hb dX10_islands_82 hl (k := 4) rfl (by rw [e_z_2063]; rfl) (by decide) rfl (fun ls hl => ?_)
              refine lv_iload hx hb dX10_islands_85 (lv_at hl 1 rfl) ?_
              refine lv_iload hx hb dX10_islands_87 (lv_at hl 4 rfl) ?_
              refine cutW (σ := Int32) (pc2 := 99) (st2 := fun v => [.int v]) (cells2 := 0) (slots2 := 0) (fun v H locs ls => ((-1 : Int) ≤ v.toInt ∧ v.toInt ≤ 19999) ∧ va_P (dC, dI) vwCl [(o0, .inr (8, [.int x_th, .ref mwo, .ref mim, .ref mhi, .ref mlu, .ref mtp, .int x_td, .ref mfv, .int x_sz, .int x_at, .int x_fr, .int x_to, .int x_va, .int x_fk, .int x_fp, .ref mfr, .ref mwt, .int x_wt, .int x_op, .int x_jo, .ref mfg, .ref mpl, .long x_dr, .ref mtm, .ref mfa, .ref mqu, .ref mmo, .ref mwy, .ref mwn, .ref mma, .ref mwi, .ref mnu, .ref mmv])), (mwo, .inl (c_wo, 1875, .inl w_wo)), (mlu, .inl (c_lu, 20000, .inl w_lu)), (mfa, .inl (c_fa, 20000, .inl o0_2061)), (mqu, .inl (c_qu, 20000, .inl o1_2062))] H ∧ va_D A [(o0, .inr (8, [.int x_th, .ref mwo, .ref mim, .ref mhi, .ref mlu, .ref mtp, .int x_td, .ref mfv, .int x_sz, .int x_at, .int x_fr, .int x_to, .int x_va, .int x_fk, .int x_fp, .ref mfr, .ref mwt, .int x_wt, .int x_op, .int x_jo, .ref mfg, .ref mpl, .long x_dr, .ref mtm, .ref mfa, .ref mqu, .ref mmo, .ref mwy, .ref mwn, .ref mma, .ref mwi, .ref mnu, .ref mmv])), (mwo, .inl (c_wo, 1875, .inl w_wo)), (mlu, .inl (c_lu, 20000, .inl w_lu)), (mfa, .inl (c_fa, 20000, .inl o0_2061)), (mqu, .inl (c_qu, 20000, .inl o1_2062))] ∧ va_S A s.heap H locs ∧ lv_has ls 8 [(3, .int z_2063), (7, .int r_2059), (6, .int y_1101), (5, .int y_1102), (4, .int y_1103), (0, .ref o0), (1, .int a1), (2, .int a2)]) (fun v H locs ls hI => ?_) (fun hj_99_2065 => ?_)
              ·
                obtain ⟨y_2065, rfl⟩ : ∃ z, z = v := ⟨_, rfl⟩
                obtain ⟨b_y_2065, hP, hD, hS, hl⟩ := hI
                have b_y_2065 : (-1 : Int) ≤ y_2065.toInt ∧ y_2065.toInt ≤ 19999 := b_y_2065
                have hP : va_P (dC, dI) vwCl [(o0, .inr (8, [.int x_th, .ref mwo, .ref mim, .ref mhi, .ref mlu, .ref mtp, .int x_td, .ref mfv, .int x_sz, .int x_at, .int x_fr, .int x_to, .int x_va, .int x_fk, .int x_fp, .ref mfr, .ref mwt, .int x_wt, .int x_op, .int x_jo, .ref mfg, .ref mpl, .long x_dr, .ref mtm, .ref mfa, .ref mqu, .ref mmo, .ref mwy, .ref mwn, .ref mma, .ref mwi, .ref mnu, .ref mmv])), (mwo, .inl (c_wo, 1875, .inl w_wo)), (mlu, .inl (c_lu, 20000, .inl w_lu)), (mfa, .inl (c_fa, 20000, .inl o0_2061)), (mqu, .inl (c_qu, 20000, .inl o1_2062))] H := hP
                have hD : va_D A [(o0, .inr (8, [.int x_th, .ref mwo, .ref mim, .ref mhi, .ref mlu, .ref mtp, .int x_td, .ref mfv, .int x_sz, .int x_at, .int x_fr, .int x_to, .int x_va, .int x_fk, .int x_fp, .ref mfr, .ref mwt, .int x_wt, .int x_op, .int x_jo, .ref mfg, .ref mpl, .long x_dr, .ref mtm, .ref mfa, .ref mqu, .ref mmo, .ref mwy, .ref mwn, .ref mma, .ref mwi, .ref mnu, .ref mmv])), (mwo, .inl (c_wo, 1875, .inl w_wo)), (mlu, .inl (c_lu, 20000, .inl w_lu)), (mfa, .inl (c_fa, 20000, .inl o0_2061)), (mqu, .inl (c_qu, 20000, .inl o1_2062))] := hD
                have hl : lv_has ls 8 [(3, .int z_2063), (7, .int r_2059), (6, .int y_1101), (5, .int y_1102), (4, .int y_1103), (0, .ref o0), (1, .int a1), (2, .int a2)] := hl
                refine lv_istore (lv' := [(5, .int y_2065), (3, .int z_2063), (7, .int r_2059), (6, .int y_1101), (4, .int y_1103), (0, .ref o0), (1, .int a1), (2, .int a2)]) hx hb dX10_islands_99 hl (by decide) rfl (fun ls hl => ?_)
                refine lv_iload hx hb dX10_islands_101 (lv_at hl 4 rfl) ?_
                refine lv_iload hx hb dX10_islands_103 (lv_at hl 2 rfl) ?_
                refine va_mmax hx hb (hml.trans hl.1.symm) hown (hts (.methodLink RX10 427 yJ9_max_7cf53) (List.mem_of_getElem? (i := 19) rfl)) (hts (.static yJ9_max_7cf53) (List.mem_of_getElem? (i := 20) rfl)) (hts (.initialized RJ9) (List.mem_of_getElem? (i := 21) rfl)) (hts (.code yJ9_max_7cf53 cJ9_max_7cf53 2 (some .int)) (List.mem_of_getElem? (i := 22) rfl)) (lel 1 2 rfl) (Nat.le_of_ble_eq_true rfl) (lel 0 0 rfl) (lel 0 0 rfl) dX10_islands_105 ?_
                refine lv_topi (fun z_2066 e_z_2066 => ?_)
                have q_z_2066 := ti_max e_z_2066 rfl rfl
                have b_z_2066 : (1 : Int) ≤ z_2066.toInt ∧ z_2066.toInt ≤ 20000 := by
                  have q0 := b_y_1103; have q1 := b_r_2059
                  omega
                refine lv_istore (lv' := [(4, .int z_2066), (5, .int y_2065), (3, .int z_2063), (7, .int r_2059), (6, .int y_1101), (0, .ref o0), (1, .int a1), (2, .int a2)]) hx hb dX10_islands_108 hl (by decide) rfl (fun ls hl => ?_)
                exact hj_110_2055 (y_2065, z_2066, z_2063, o0_2061, o1_2062) _ _ _ ⟨(show (-1 : Int) ≤ y_2065.toInt ∧ y_2065.toInt ≤ 19999 from b_y_2065), (show (0 : Int) ≤ z_2066.toInt ∧ z_2066.toInt ≤ 20000 from (rg_w b_z_2066 (by decide) (by decide))), hP, hD, hS, lv_sub hl [4, 1, 0, 2, 5, 6, 7] rfl⟩
              ·
                refine lv_icmp_le (tgt := 97) hx hb dX10_islands_89 (by decide) (fun c_2064 => ?_) (fun c_2064 => ?_)
                ·
                  have n_c_2064 : (r_2059.toInt : Int) ≤ y_1103.toInt := c_le rfl rfl c_2064
                  have b_y_1103 : (1 : Int) ≤ y_1103.toInt ∧ y_1103.toInt ≤ 20000 := r_le2 b_r_2059 b_y_1103 n_c_2064 (by decide)
                  refine lv_iload hx hb dX10_islands_97 (lv_at hl 3 rfl) ?_
                  exact hj_99_2065 y_1102 _ _ _ ⟨(show (-1 : Int) ≤ y_1102.toInt ∧ y_1102.toInt ≤ 19999 from b_y_1102), hP, hD, hS, lv_sub hl [0, 1, 2, 3, 4, 5, 6, 7] rfl⟩
                ·
                  have n_c_2064 : (y_1103.toInt : Int) < r_2059.toInt := c_nle rfl rfl c_2064
                  have b_y_1103 : (0 : Int) ≤ y_1103.toInt ∧ y_1103.toInt ≤ 19999 := r_lt1 b_y_1103 b_r_2059 n_c_2064 (by decide)
                  refine lv_iload hx hb dX10_islands_92 (lv_at hl 2 rfl) ?_
                  refine lv_goto (tgt := 99) hx hb dX10_islands_94 (by decide) ?_
                  exact hj_99_2065 y_1101 _ _ _ ⟨(show (-1 : Int) ≤ y_1101.toInt ∧ y_1101.toInt ≤ 19999 from (rg_w b_y_1101 (by decide) (by decide))), hP, hD, hS, lv_sub hl [0, 1, 2, 3, 4, 5, 6, 7] rfl⟩
            ·
              have n_c_2058 : (z_2057.toInt : Int) ≠ (-1) := c_ne rfl (by decide) c_2058
              refine lv_goto (tgt := 110) hx hb dX10_islands_70 (by decide) ?_
              exact hj_110_2055 (y_1102, y_1103, y_1104, f_1105, f_1106) _ _ _ ⟨(show (-1 : Int) ≤ y_1102.toInt ∧ y_1102.toInt ≤ 19999 from b_y_1102), (show (0 : Int) ≤ y_1103.toInt ∧ y_1103.toInt ≤ 20000 from b_y_1103), hP, hD, hS, lv_sub hl [0, 1, 2, 3, 4, 5, 6] rfl⟩
    ·
      have n_c_1039 : (r_1038.toInt : Int) = 0 := c_eq rfl (by decide) c_1039
      have b_r_1038 : (0 : Int) ≤ r_1038.toInt ∧ r_1038.toInt ≤ 0 := r_eq1 b_r_1038 (by decide : (0 : Int) ≤ (0 : Int32).toInt ∧ (0 : Int32).toInt ≤ 0) n_c_1039 (by decide)
      refine lv_bipush (v := (-2)) hx hb dX10_islands_20 (by decide) ?_
      have hP9 := hP.sub (ws' := [(o0, .inr (8, [.int x_th, .ref mwo, .ref mim, .ref mhi, .ref mlu, .ref mtp, .int x_td, .ref mfv, .int x_sz, .int x_at, .int x_fr, .int x_to, .int x_va, .int x_fk, .int x_fp, .ref mfr, .ref mwt, .int x_wt, .int x_op, .int x_jo, .ref mfg, .ref mpl, .long x_dr, .ref mtm, .ref mfa, .ref mqu, .ref mmo, .ref mwy, .ref mwn, .ref mma, .ref mwi, .ref mnu, .ref mmv])), (mwo, .inl (c_wo, 1875, .inl w_wo)), (mlu, .inl (c_lu, 20000, .inl w_lu)), (mfa, .inl (c_fa, 20000, .inl w_fa)), (mqu, .inl (c_qu, 20000, .inl w_qu))]) [0, 1, 2, 3, 4] rfl
      have hD9 := hD.sub (ws' := [(o0, .inr (8, [.int x_th, .ref mwo, .ref mim, .ref mhi, .ref mlu, .ref mtp, .int x_td, .ref mfv, .int x_sz, .int x_at, .int x_fr, .int x_to, .int x_va, .int x_fk, .int x_fp, .ref mfr, .ref mwt, .int x_wt, .int x_op, .int x_jo, .ref mfg, .ref mpl, .long x_dr, .ref mtm, .ref mfa, .ref mqu, .ref mmo, .ref mwy, .ref mwn, .ref mma, .ref mwi, .ref mnu, .ref mmv])), (mwo, .inl (c_wo, 1875, .inl w_wo)), (mlu, .inl (c_lu, 20000, .inl w_lu)), (mfa, .inl (c_fa, 20000, .inl w_fa)), (mqu, .inl (c_qu, 20000, .inl w_qu))]) [0, 1, 2, 3, 4] (by decide) rfl
      have hK9 := hK.sub (tys' := [(c_wo, .int), (c_lu, .int), (c_fa, .int), (c_qu, .int)]) [0, 1, 2, 3] rfl
      exact W.iret (v := (-2)) hx hb hr (fun t ht hW => ⟨⟨(-2), (), rfl, trivial, w_fa, w_qu, by rw [ht]; exact hP9, va_K.moved hW.alike hK9, hD9⟩, hS.F ht⟩) hS.2.2 dX10_islands_22
