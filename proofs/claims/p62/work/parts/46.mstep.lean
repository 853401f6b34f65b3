theorem dX10_step_0 : decode cX10_step 0 = .ok (.aload_n 0, 1) := by decide +kernel
theorem dX10_step_1 : decode cX10_step 1 = .ok (.getfield 34, 3) := by decide +kernel
theorem dX10_step_4 : decode cX10_step 4 = .ok (.iconst 5, 1) := by decide +kernel
theorem dX10_step_5 : decode cX10_step 5 = .ok (.aload_n 0, 1) := by decide +kernel
theorem dX10_step_6 : decode cX10_step 6 = .ok (.getfield 34, 3) := by decide +kernel
theorem dX10_step_9 : decode cX10_step 9 = .ok (.iconst 3, 1) := by decide +kernel
theorem dX10_step_10 : decode cX10_step 10 = .ok (.iaload, 1) := by decide +kernel
theorem dX10_step_11 : decode cX10_step 11 = .ok (.iadd, 1) := by decide +kernel
theorem dX10_step_12 : decode cX10_step 12 = .ok (.iconst 1, 1) := by decide +kernel
theorem dX10_step_13 : decode cX10_step 13 = .ok (.iadd, 1) := by decide +kernel
theorem dX10_step_14 : decode cX10_step 14 = .ok (.iaload, 1) := by decide +kernel
theorem dX10_step_15 : decode cX10_step 15 = .ok (.istore 4, 2) := by decide +kernel
theorem dX10_step_17 : decode cX10_step 17 = .ok (.aload_n 0, 1) := by decide +kernel
theorem dX10_step_18 : decode cX10_step 18 = .ok (.getfield 34, 3) := by decide +kernel
theorem dX10_step_21 : decode cX10_step 21 = .ok (.bipush 15, 2) := by decide +kernel
theorem dX10_step_23 : decode cX10_step 23 = .ok (.iconst 3, 1) := by decide +kernel
theorem dX10_step_24 : decode cX10_step 24 = .ok (.iload 4, 2) := by decide +kernel
theorem dX10_step_26 : decode cX10_step 26 = .ok (.imul, 1) := by decide +kernel
theorem dX10_step_27 : decode cX10_step 27 = .ok (.iadd, 1) := by decide +kernel
theorem dX10_step_28 : decode cX10_step 28 = .ok (.iload_n 1, 1) := by decide +kernel
theorem dX10_step_29 : decode cX10_step 29 = .ok (.iastore, 1) := by decide +kernel
theorem dX10_step_30 : decode cX10_step 30 = .ok (.aload_n 0, 1) := by decide +kernel
theorem dX10_step_31 : decode cX10_step 31 = .ok (.getfield 34, 3) := by decide +kernel
theorem dX10_step_34 : decode cX10_step 34 = .ok (.bipush 15, 2) := by decide +kernel
theorem dX10_step_36 : decode cX10_step 36 = .ok (.iconst 3, 1) := by decide +kernel
theorem dX10_step_37 : decode cX10_step 37 = .ok (.iload 4, 2) := by decide +kernel
theorem dX10_step_39 : decode cX10_step 39 = .ok (.imul, 1) := by decide +kernel
theorem dX10_step_40 : decode cX10_step 40 = .ok (.iadd, 1) := by decide +kernel
theorem dX10_step_41 : decode cX10_step 41 = .ok (.iconst 1, 1) := by decide +kernel
theorem dX10_step_42 : decode cX10_step 42 = .ok (.iadd, 1) := by decide +kernel
theorem dX10_step_43 : decode cX10_step 43 = .ok (.iload_n 2, 1) := by decide +kernel
theorem dX10_step_44 : decode cX10_step 44 = .ok (.iastore, 1) := by decide +kernel
theorem dX10_step_45 : decode cX10_step 45 = .ok (.aload_n 0, 1) := by decide +kernel
theorem dX10_step_46 : decode cX10_step 46 = .ok (.getfield 34, 3) := by decide +kernel
theorem dX10_step_49 : decode cX10_step 49 = .ok (.bipush 15, 2) := by decide +kernel
theorem dX10_step_51 : decode cX10_step 51 = .ok (.iconst 3, 1) := by decide +kernel
theorem dX10_step_52 : decode cX10_step 52 = .ok (.iload 4, 2) := by decide +kernel
theorem dX10_step_54 : decode cX10_step 54 = .ok (.imul, 1) := by decide +kernel
theorem dX10_step_55 : decode cX10_step 55 = .ok (.iadd, 1) := by decide +kernel
theorem dX10_step_56 : decode cX10_step 56 = .ok (.iconst 2, 1) := by decide +kernel
theorem dX10_step_57 : decode cX10_step 57 = .ok (.iadd, 1) := by decide +kernel
theorem dX10_step_58 : decode cX10_step 58 = .ok (.iload_n 3, 1) := by decide +kernel
theorem dX10_step_59 : decode cX10_step 59 = .ok (.iastore, 1) := by decide +kernel
theorem dX10_step_60 : decode cX10_step 60 = .ok (.aload_n 0, 1) := by decide +kernel
theorem dX10_step_61 : decode cX10_step 61 = .ok (.getfield 34, 3) := by decide +kernel
theorem dX10_step_64 : decode cX10_step 64 = .ok (.iconst 5, 1) := by decide +kernel
theorem dX10_step_65 : decode cX10_step 65 = .ok (.aload_n 0, 1) := by decide +kernel
theorem dX10_step_66 : decode cX10_step 66 = .ok (.getfield 34, 3) := by decide +kernel
theorem dX10_step_69 : decode cX10_step 69 = .ok (.iconst 3, 1) := by decide +kernel
theorem dX10_step_70 : decode cX10_step 70 = .ok (.iaload, 1) := by decide +kernel
theorem dX10_step_71 : decode cX10_step 71 = .ok (.iadd, 1) := by decide +kernel
theorem dX10_step_72 : decode cX10_step 72 = .ok (.iconst 1, 1) := by decide +kernel
theorem dX10_step_73 : decode cX10_step 73 = .ok (.iadd, 1) := by decide +kernel
theorem dX10_step_74 : decode cX10_step 74 = .ok (.iload 4, 2) := by decide +kernel
theorem dX10_step_76 : decode cX10_step 76 = .ok (.iconst 1, 1) := by decide +kernel
theorem dX10_step_77 : decode cX10_step 77 = .ok (.iadd, 1) := by decide +kernel
theorem dX10_step_78 : decode cX10_step 78 = .ok (.iastore, 1) := by decide +kernel
theorem dX10_step_79 : decode cX10_step 79 = .ok (.return_, 1) := by decide +kernel
theorem hd_yX10_step : yX10_step.cls = RX10 ∧ yX10_step.cls ≠ "java/lang/invoke/MethodHandle" ∧ yX10_step.cls ≠ "java/lang/invoke/VarHandle" ∧ (parseMethodDescriptor yX10_step.desc).map (fun d => d.parameters.length) = some 3 := by decide +kernel
def uX10_step : List Cond := List.cons (.code yX10_step cX10_step 5 none) (HAppend.hAppend ([.fieldLink RX10 34 "LuckyTicketModel" "fresh" "[I"] : List Cond) wsX100)
theorem iX10_step_X10 : ∀ w ∈ wsX100, w ∈ uX10_step := fun _ h => (List.mem_cons_of_mem _ (List.mem_append_right _ h))
theorem guX10_step : GU uX10_step := gu_cons (gu_app (by decide +kernel) gws_X10)
set_option maxHeartbeats 4000000 in
set_option maxRecDepth 100000 in
theorem kX10_step (l : Launch) (dC : Nat → ClassId) (dI : Nat → Nat → Nat) (o0 : Nat) (x_th : Int32) (mwo : Nat) (mim : Nat) (mhi : Nat) (mlu : Nat) (mtp : Nat) (x_td : Int32) (mfv : Nat) (x_sz : Int32) (x_at : Int32) (x_fr : Int32) (x_to : Int32) (x_va : Int32) (x_fk : Int32) (x_fp : Int32) (mfr : Nat) (mwt : Nat) (x_wt : Int32) (x_op : Int32) (x_jo : Int32) (mfg : Nat) (mpl : Nat) (x_dr : Int64) (mtm : Nat) (mfa : Nat) (mqu : Nat) (mmo : Nat) (mwy : Nat) (mwn : Nat) (mma : Nat) (mwi : Nat) (mnu : Nat) (mmv : Nat) (c_fr : ClassId) (w_fr : Nat → Int32) (a1 : Int32) (a2 : Int32) (a3 : Int32) (sz : Nat) (b_x_sz : (0 : Int) ≤ x_sz.toInt ∧ x_sz.toInt ≤ 1200) (b_x_at : (0 : Int) ≤ x_at.toInt ∧ x_at.toInt ≤ 1200) (b_x_fr : (0 : Int) ≤ x_fr.toInt ∧ x_fr.toInt ≤ 1200) (b_x_to : (0 : Int) ≤ x_to.toInt ∧ x_to.toInt ≤ 6) (b_x_fk : (0 : Int) ≤ x_fk.toInt ∧ x_fk.toInt ≤ 3) (hn3 : 0 ≤ (w_fr 3).toInt ∧ (w_fr 3).toInt ≤ 8) (hk3 : 0 ≤ (kK w_fr).toInt ∧ (kK w_fr).toInt ≤ 618) : Met l yX10_step uX10_step ({ frames := 0, cells := 0, slots := 0, locals := 0 }) (va_Pc [.ref o0, .int a1, .int a2, .int a3] (hw (dC, dI) vwCl [(o0, .inr (8, [.int x_th, .ref mwo, .ref mim, .ref mhi, .ref mlu, .ref mtp, .int x_td, .ref mfv, .int x_sz, .int x_at, .int x_fr, .int x_to, .int x_va, .int x_fk, .int x_fp, .ref mfr, .ref mwt, .int x_wt, .int x_op, .int x_jo, .ref mfg, .ref mpl, .long x_dr, .ref mtm, .ref mfa, .ref mqu, .ref mmo, .ref mwy, .ref mwn, .ref mma, .ref mwi, .ref mnu, .ref mmv])), (mfr, .inl (c_fr, 1875, .inl w_fr))] [(c_fr, .int)] sz)) (va_Qv (fun (_ : Unit) => True) (fun (_ : Unit) t => ∃ (o0_ : Nat → Int32), (∃ k1 : Int32, k1.toInt = (kK w_fr).toInt + 1 ∧ o0_ = stf w_fr a1 a2 a3 k1) ∧ va_P (dC, dI) vwCl [(o0, .inr (8, [.int x_th, .ref mwo, .ref mim, .ref mhi, .ref mlu, .ref mtp, .int x_td, .ref mfv, .int x_sz, .int x_at, .int x_fr, .int x_to, .int x_va, .int x_fk, .int x_fp, .ref mfr, .ref mwt, .int x_wt, .int x_op, .int x_jo, .ref mfg, .ref mpl, .long x_dr, .ref mtm, .ref mfa, .ref mqu, .ref mmo, .ref mwy, .ref mwn, .ref mma, .ref mwi, .ref mnu, .ref mmv])), (mfr, .inl (c_fr, 1875, .inl o0_))] t.heap ∧ va_K (dC, dI) vwCl [(c_fr, .int)] t ∧ va_D (va_A [(o0, .inr (8, [.int x_th, .ref mwo, .ref mim, .ref mhi, .ref mlu, .ref mtp, .int x_td, .ref mfv, .int x_sz, .int x_at, .int x_fr, .int x_to, .int x_va, .int x_fk, .int x_fp, .ref mfr, .ref mwt, .int x_wt, .int x_op, .int x_jo, .ref mfg, .ref mpl, .long x_dr, .ref mtm, .ref mfa, .ref mqu, .ref mmo, .ref mwy, .ref mwn, .ref mma, .ref mwi, .ref mnu, .ref mmv])), (mfr, .inl (c_fr, 1875, .inl w_fr))] sz) [(o0, .inr (8, [.int x_th, .ref mwo, .ref mim, .ref mhi, .ref mlu, .ref mtp, .int x_td, .ref mfv, .int x_sz, .int x_at, .int x_fr, .int x_to, .int x_va, .int x_fk, .int x_fp, .ref mfr, .ref mwt, .int x_wt, .int x_op, .int x_jo, .ref mfg, .ref mpl, .long x_dr, .ref mtm, .ref mfa, .ref mqu, .ref mmo, .ref mwy, .ref mwn, .ref mma, .ref mwi, .ref mnu, .ref mmv])), (mfr, .inl (c_fr, 1875, .inl o0_))]) (va_A [(o0, .inr (8, [.int x_th, .ref mwo, .ref mim, .ref mhi, .ref mlu, .ref mtp, .int x_td, .ref mfv, .int x_sz, .int x_at, .int x_fr, .int x_to, .int x_va, .int x_fk, .int x_fp, .ref mfr, .ref mwt, .int x_wt, .int x_op, .int x_jo, .ref mfg, .ref mpl, .long x_dr, .ref mtm, .ref mfa, .ref mqu, .ref mmo, .ref mwy, .ref mwn, .ref mma, .ref mwi, .ref mnu, .ref mmv])), (mfr, .inl (c_fr, 1875, .inl w_fr))] sz)) 0 0 (va_A [(o0, .inr (8, [.int x_th, .ref mwo, .ref mim, .ref mhi, .ref mlu, .ref mtp, .int x_td, .ref mfv, .int x_sz, .int x_at, .int x_fr, .int x_to, .int x_va, .int x_fk, .int x_fp, .ref mfr, .ref mwt, .int x_wt, .int x_op, .int x_jo, .ref mfg, .ref mpl, .long x_dr, .ref mtm, .ref mfa, .ref mqu, .ref mmo, .ref mwy, .ref mwn, .ref mma, .ref mwi, .ref mnu, .ref mmv])), (mfr, .inl (c_fr, 1875, .inl w_fr))] sz) := by
  refine Met.ofW (cc := cX10_step) (maxL := 5) (ret := none) pn_X10 rfl ?_
  intro p e s m args below meth c s₁ B hml hv
  obtain ⟨rfl, hsz, hP, hK, hD0, hN⟩ := hv
  have hx := B.exec
  have hb := B.bytes
  have hr := B.returns
  have hts := atoms_spec (ws := uX10_step) B.pre
  have hown : s.vm.findClass RX10 = some m.cls := hown_of B.named rfl
  have hlocks := B.notSynchronized
  subst hsz
  have hD := hD0.self (sz := s.heap.size)
  generalize hAe : va_A [(o0, .inr (8, [.int x_th, .ref mwo, .ref mim, .ref mhi, .ref mlu, .ref mtp, .int x_td, .ref mfv, .int x_sz, .int x_at, .int x_fr, .int x_to, .int x_va, .int x_fk, .int x_fp, .ref mfr, .ref mwt, .int x_wt, .int x_op, .int x_jo, .ref mfg, .ref mpl, .long x_dr, .ref mtm, .ref mfa, .ref mqu, .ref mmo, .ref mwy, .ref mwn, .ref mma, .ref mwi, .ref mnu, .ref mmv])), (mfr, .inl (c_fr, 1875, .inl w_fr))] s.heap.size = A at hD ⊢
  have hA : ∀ q : Nat, s.heap.size ≤ q → A q := fun q h => by rw [← hAe]; exact Or.inr h
  have hS : va_S A s.heap s.heap [] := va_S.rf
  have hP : va_P (dC, dI) vwCl [(o0, .inr (8, [.int x_th, .ref mwo, .ref mim, .ref mhi, .ref mlu, .ref mtp, .int x_td, .ref mfv, .int x_sz, .int x_at, .int x_fr, .int x_to, .int x_va, .int x_fk, .int x_fp, .ref mfr, .ref mwt, .int x_wt, .int x_op, .int x_jo, .ref mfg, .ref mpl, .long x_dr, .ref mtm, .ref mfa, .ref mqu, .ref mmo, .ref mwy, .ref mwn, .ref mma, .ref mwi, .ref mnu, .ref mmv])), (mfr, .inl (c_fr, 1875, .inl w_fr))] s.heap := hP
  have hl := lv_entry ([.ref o0, .int a1, .int a2, .int a3]) (n := 5) (Nat.le_of_ble_eq_true rfl)
  rw [lg_entry_eq]
  generalize (lg_sl ([.ref o0, .int a1, .int a2, .int a3]) ++ List.replicate (5 - (lg_sl ([.ref o0, .int a1, .int a2, .int a3])).length) Slot.unset).toArray = ls at hl ⊢
  have hl : lv_has ls 5 [(0, .ref o0), (1, .int a1), (2, .int a2), (3, .int a3)] := hl
  refine lv_aload_n hx hb dX10_step_0 rfl (lv_at hl 0 rfl) ?_
  refine va_get (D := (dC, dI)) (ci := 8) (v := .ref mfr) (C := RX10) (T := TX10) (N := 33) hx hb hts iX10_step_X10 hown hK hP 0 rfl rfl 15 (by decide) (hts (.fieldLink RX10 34 "LuckyTicketModel" "fresh" "[I") (List.mem_of_getElem? (i := 1) rfl)) (fun _ h9 => h9) rfl dX10_step_1 ?_
  refine lv_iconst (v := 5) hx hb dX10_step_4 (by decide) ?_
  refine lv_aload_n hx hb dX10_step_5 rfl (lv_at hl 0 rfl) ?_
  refine va_get (D := (dC, dI)) (ci := 8) (v := .ref mfr) (C := RX10) (T := TX10) (N := 33) hx hb hts iX10_step_X10 hown hK hP 0 rfl rfl 15 (by decide) (hts (.fieldLink RX10 34 "LuckyTicketModel" "fresh" "[I") (List.mem_of_getElem? (i := 1) rfl)) (fun _ h9 => h9) rfl dX10_step_6 ?_
  refine lv_iconst (v := 3) hx hb dX10_step_9 (by decide) ?_
  refine va_iald hx hb hK hP 1 0 rfl rfl (vp_in_b (by decide : (3 : Int) ≤ (3 : Int32).toInt ∧ (3 : Int32).toInt ≤ 3) (by decide) (by decide)) dX10_step_10 ?_
  refine lv_topi (fun z_21 e_z_21 => ?_)
  have en_z_21 : z_21 = w_fr 3 := e_z_21
  have b_z_21 : (0 : Int) ≤ z_21.toInt ∧ z_21.toInt ≤ 8 := by rw [en_z_21]; exact hn3
  refine lv_iadd hx hb dX10_step_11 ?_
  refine lv_topi (fun z_22 e_z_22 => ?_)
  obtain ⟨q_z_22, b_z_22⟩ := ti_add (lo := 5) (hi := 13) e_z_22 (by decide : (5 : Int32).toInt = 5) rfl (by decide : (5 : Int) ≤ (5 : Int32).toInt ∧ (5 : Int32).toInt ≤ 5) b_z_21 (by decide)
  refine lv_iconst (v := 1) hx hb dX10_step_12 (by decide) ?_
  refine lv_iadd hx hb dX10_step_13 ?_
  refine lv_topi (fun z_23 e_z_23 => ?_)
  obtain ⟨q_z_23, b_z_23⟩ := ti_add (lo := 6) (hi := 14) e_z_23 rfl (by decide : (1 : Int32).toInt = 1) b_z_22 (by decide : (1 : Int) ≤ (1 : Int32).toInt ∧ (1 : Int32).toInt ≤ 1) (by decide)
  refine va_iald hx hb hK hP 1 0 rfl rfl (vp_in_b b_z_23 (by decide) (by decide)) dX10_step_14 ?_
  refine lv_topi (fun z_24 e_z_24 => ?_)
  have ek_z_24 : z_24 = kK w_fr := by
    rw [e_z_24]
    show w_fr z_23.toInt.toNat = w_fr (6 + (w_fr 3).toInt.toNat)
    rw [← en_z_21]
    congr 1
    omega
  have b_z_24 : (0 : Int) ≤ z_24.toInt ∧ z_24.toInt ≤ 618 := by rw [ek_z_24]; exact hk3
  refine lv_istore (lv' := [(4, .int z_24), (0, .ref o0), (1, .int a1), (2, .int a2), (3, .int a3)]) hx hb dX10_step_15 hl (by decide) rfl (fun ls hl => ?_)
  refine lv_aload_n hx hb dX10_step_17 rfl (lv_at hl 1 rfl) ?_
  refine va_get (D := (dC, dI)) (ci := 8) (v := .ref mfr) (C := RX10) (T := TX10) (N := 33) hx hb hts iX10_step_X10 hown hK hP 0 rfl rfl 15 (by decide) (hts (.fieldLink RX10 34 "LuckyTicketModel" "fresh" "[I") (List.mem_of_getElem? (i := 1) rfl)) (fun _ h9 => h9) rfl dX10_step_18 ?_
  refine lv_bipush (v := 15) hx hb dX10_step_21 (by decide) ?_
  refine lv_iconst (v := 3) hx hb dX10_step_23 (by decide) ?_
  refine lv_iload hx hb dX10_step_24 (lv_at hl 0 rfl) ?_
  refine lv_imul hx hb dX10_step_26 ?_
  refine lv_topi (fun z_25 e_z_25 => ?_)
  obtain ⟨q_z_25, b_z_25⟩ := ti_mul (lo := 0) (hi := 1854) e_z_25 (by decide : (3 : Int32).toInt = 3) rfl (by decide : (3 : Int) ≤ (3 : Int32).toInt ∧ (3 : Int32).toInt ≤ 3) b_z_24 (by decide)
  refine lv_iadd hx hb dX10_step_27 ?_
  refine lv_topi (fun z_26 e_z_26 => ?_)
  obtain ⟨q_z_26, b_z_26⟩ := ti_add (lo := 15) (hi := 1869) e_z_26 (by decide : (15 : Int32).toInt = 15) rfl (by decide : (15 : Int) ≤ (15 : Int32).toInt ∧ (15 : Int32).toInt ≤ 15) b_z_25 (by decide)
  refine lv_iload_n hx hb dX10_step_28 rfl (lv_at hl 2 rfl) ?_
  refine va_iast hx hb hK hP hD hS 1 0 rfl rfl (vp_in_b b_z_26 (by decide) (by decide)) dX10_step_29 (fun H locs hP hD hS => ?_)
  have hP : va_P (dC, dI) vwCl [(o0, .inr (8, [.int x_th, .ref mwo, .ref mim, .ref mhi, .ref mlu, .ref mtp, .int x_td, .ref mfv, .int x_sz, .int x_at, .int x_fr, .int x_to, .int x_va, .int x_fk, .int x_fp, .ref mfr, .ref mwt, .int x_wt, .int x_op, .int x_jo, .ref mfg, .ref mpl, .long x_dr, .ref mtm, .ref mfa, .ref mqu, .ref mmo, .ref mwy, .ref mwn, .ref mma, .ref mwi, .ref mnu, .ref mmv])), (mfr, .inl (c_fr, 1875, .inl (upd w_fr (z_26 : Int32).toNatClampNeg a1)))] H := hP
  have hD : va_D A [(o0, .inr (8, [.int x_th, .ref mwo, .ref mim, .ref mhi, .ref mlu, .ref mtp, .int x_td, .ref mfv, .int x_sz, .int x_at, .int x_fr, .int x_to, .int x_va, .int x_fk, .int x_fp, .ref mfr, .ref mwt, .int x_wt, .int x_op, .int x_jo, .ref mfg, .ref mpl, .long x_dr, .ref mtm, .ref mfa, .ref mqu, .ref mmo, .ref mwy, .ref mwn, .ref mma, .ref mwi, .ref mnu, .ref mmv])), (mfr, .inl (c_fr, 1875, .inl (upd w_fr (z_26 : Int32).toNatClampNeg a1)))] := hD
  generalize ef_f_27 : (upd w_fr (z_26 : Int32).toNatClampNeg a1) = f_27 at hP hD
  have hP : va_P (dC, dI) vwCl [(o0, .inr (8, [.int x_th, .ref mwo, .ref mim, .ref mhi, .ref mlu, .ref mtp, .int x_td, .ref mfv, .int x_sz, .int x_at, .int x_fr, .int x_to, .int x_va, .int x_fk, .int x_fp, .ref mfr, .ref mwt, .int x_wt, .int x_op, .int x_jo, .ref mfg, .ref mpl, .long x_dr, .ref mtm, .ref mfa, .ref mqu, .ref mmo, .ref mwy, .ref mwn, .ref mma, .ref mwi, .ref mnu, .ref mmv])), (mfr, .inl (c_fr, 1875, .inl f_27))] H := hP
  have hD : va_D A [(o0, .inr (8, [.int x_th, .ref mwo, .ref mim, .ref mhi, .ref mlu, .ref mtp, .int x_td, .ref mfv, .int x_sz, .int x_at, .int x_fr, .int x_to, .int x_va, .int x_fk, .int x_fp, .ref mfr, .ref mwt, .int x_wt, .int x_op, .int x_jo, .ref mfg, .ref mpl, .long x_dr, .ref mtm, .ref mfa, .ref mqu, .ref mmo, .ref mwy, .ref mwn, .ref mma, .ref mwi, .ref mnu, .ref mmv])), (mfr, .inl (c_fr, 1875, .inl f_27))] := hD
  refine lv_aload_n hx hb dX10_step_30 rfl (lv_at hl 1 rfl) ?_
  refine va_get (D := (dC, dI)) (ci := 8) (v := .ref mfr) (C := RX10) (T := TX10) (N := 33) hx hb hts iX10_step_X10 hown hK hP 0 rfl rfl 15 (by decide) (hts (.fieldLink RX10 34 "LuckyTicketModel" "fresh" "[I") (List.mem_of_getElem? (i := 1) rfl)) (fun _ h9 => h9) rfl dX10_step_31 ?_
  refine lv_bipush (v := 15) hx hb dX10_step_34 (by decide) ?_
  refine lv_iconst (v := 3) hx hb dX10_step_36 (by decide) ?_
  refine lv_iload hx hb dX10_step_37 (lv_at hl 0 rfl) ?_
  refine lv_imul hx hb dX10_step_39 ?_
  refine lv_topi (fun z_28 e_z_28 => ?_)
  obtain ⟨q_z_28, b_z_28⟩ := ti_mul (lo := 0) (hi := 1854) e_z_28 (by decide : (3 : Int32).toInt = 3) rfl (by decide : (3 : Int) ≤ (3 : Int32).toInt ∧ (3 : Int32).toInt ≤ 3) b_z_24 (by decide)
  refine lv_iadd hx hb dX10_step_40 ?_
  refine lv_topi (fun z_29 e_z_29 => ?_)
  obtain ⟨q_z_29, b_z_29⟩ := ti_add (lo := 15) (hi := 1869) e_z_29 (by decide : (15 : Int32).toInt = 15) rfl (by decide : (15 : Int) ≤ (15 : Int32).toInt ∧ (15 : Int32).toInt ≤ 15) b_z_28 (by decide)
  refine lv_iconst (v := 1) hx hb dX10_step_41 (by decide) ?_
  refine lv_iadd hx hb dX10_step_42 ?_
  refine lv_topi (fun z_30 e_z_30 => ?_)
  obtain ⟨q_z_30, b_z_30⟩ := ti_add (lo := 16) (hi := 1870) e_z_30 rfl (by decide : (1 : Int32).toInt = 1) b_z_29 (by decide : (1 : Int) ≤ (1 : Int32).toInt ∧ (1 : Int32).toInt ≤ 1) (by decide)
  refine lv_iload_n hx hb dX10_step_43 rfl (lv_at hl 3 rfl) ?_
  refine va_iast hx hb hK hP hD hS 1 0 rfl rfl (vp_in_b b_z_30 (by decide) (by decide)) dX10_step_44 (fun H locs hP hD hS => ?_)
  have hP : va_P (dC, dI) vwCl [(o0, .inr (8, [.int x_th, .ref mwo, .ref mim, .ref mhi, .ref mlu, .ref mtp, .int x_td, .ref mfv, .int x_sz, .int x_at, .int x_fr, .int x_to, .int x_va, .int x_fk, .int x_fp, .ref mfr, .ref mwt, .int x_wt, .int x_op, .int x_jo, .ref mfg, .ref mpl, .long x_dr, .ref mtm, .ref mfa, .ref mqu, .ref mmo, .ref mwy, .ref mwn, .ref mma, .ref mwi, .ref mnu, .ref mmv])), (mfr, .inl (c_fr, 1875, .inl (upd f_27 (z_30 : Int32).toNatClampNeg a2)))] H := hP
  have hD : va_D A [(o0, .inr (8, [.int x_th, .ref mwo, .ref mim, .ref mhi, .ref mlu, .ref mtp, .int x_td, .ref mfv, .int x_sz, .int x_at, .int x_fr, .int x_to, .int x_va, .int x_fk, .int x_fp, .ref mfr, .ref mwt, .int x_wt, .int x_op, .int x_jo, .ref mfg, .ref mpl, .long x_dr, .ref mtm, .ref mfa, .ref mqu, .ref mmo, .ref mwy, .ref mwn, .ref mma, .ref mwi, .ref mnu, .ref mmv])), (mfr, .inl (c_fr, 1875, .inl (upd f_27 (z_30 : Int32).toNatClampNeg a2)))] := hD
  generalize ef_f_31 : (upd f_27 (z_30 : Int32).toNatClampNeg a2) = f_31 at hP hD
  have hP : va_P (dC, dI) vwCl [(o0, .inr (8, [.int x_th, .ref mwo, .ref mim, .ref mhi, .ref mlu, .ref mtp, .int x_td, .ref mfv, .int x_sz, .int x_at, .int x_fr, .int x_to, .int x_va, .int x_fk, .int x_fp, .ref mfr, .ref mwt, .int x_wt, .int x_op, .int x_jo, .ref mfg, .ref mpl, .long x_dr, .ref mtm, .ref mfa, .ref mqu, .ref mmo, .ref mwy, .ref mwn, .ref mma, .ref mwi, .ref mnu, .ref mmv])), (mfr, .inl (c_fr, 1875, .inl f_31))] H := hP
  have hD : va_D A [(o0, .inr (8, [.int x_th, .ref mwo, .ref mim, .ref mhi, .ref mlu, .ref mtp, .int x_td, .ref mfv, .int x_sz, .int x_at, .int x_fr, .int x_to, .int x_va, .int x_fk, .int x_fp, .ref mfr, .ref mwt, .int x_wt, .int x_op, .int x_jo, .ref mfg, .ref mpl, .long x_dr, .ref mtm, .ref mfa, .ref mqu, .ref mmo, .ref mwy, .ref mwn, .ref mma, .ref mwi, .ref mnu, .ref mmv])), (mfr, .inl (c_fr, 1875, .inl f_31))] := hD
  refine lv_aload_n hx hb dX10_step_45 rfl (lv_at hl 1 rfl) ?_
  refine va_get (D := (dC, dI)) (ci := 8) (v := .ref mfr) (C := RX10) (T := TX10) (N := 33) hx hb hts iX10_step_X10 hown hK hP 0 rfl rfl 15 (by decide) (hts (.fieldLink RX10 34 "LuckyTicketModel" "fresh" "[I") (List.mem_of_getElem? (i := 1) rfl)) (fun _ h9 => h9) rfl dX10_step_46 ?_
  refine lv_bipush (v := 15) hx hb dX10_step_49 (by decide) ?_
  refine lv_iconst (v := 3) hx hb dX10_step_51 (by decide) ?_
  refine lv_iload hx hb dX10_step_52 (lv_at hl 0 rfl) ?_
  refine lv_imul hx hb dX10_step_54 ?_
  refine lv_topi (fun z_32 e_z_32 => ?_)
  obtain ⟨q_z_32, b_z_32⟩ := ti_mul (lo := 0) (hi := 1854) e_z_32 (by decide : (3 : Int32).toInt = 3) rfl (by decide : (3 : Int) ≤ (3 : Int32).toInt ∧ (3 : Int32).toInt ≤ 3) b_z_24 (by decide)
  refine lv_iadd hx hb dX10_step_55 ?_
  refine lv_topi (fun z_33 e_z_33 => ?_)
  obtain ⟨q_z_33, b_z_33⟩ := ti_add (lo := 15) (hi := 1869) e_z_33 (by decide : (15 : Int32).toInt = 15) rfl (by decide : (15 : Int) ≤ (15 : Int32).toInt ∧ (15 : Int32).toInt ≤ 15) b_z_32 (by decide)
  refine lv_iconst (v := 2) hx hb dX10_step_56 (by decide) ?_
  refine lv_iadd hx hb dX10_step_57 ?_
  refine lv_topi (fun z_34 e_z_34 => ?_)
  obtain ⟨q_z_34, b_z_34⟩ := ti_add (lo := 17) (hi := 1871) e_z_34 rfl (by decide : (2 : Int32).toInt = 2) b_z_33 (by decide : (2 : Int) ≤ (2 : Int32).toInt ∧ (2 : Int32).toInt ≤ 2) (by decide)
  refine lv_iload_n hx hb dX10_step_58 rfl (lv_at hl 4 rfl) ?_
  refine va_iast hx hb hK hP hD hS 1 0 rfl rfl (vp_in_b b_z_34 (by decide) (by decide)) dX10_step_59 (fun H locs hP hD hS => ?_)
  have hP : va_P (dC, dI) vwCl [(o0, .inr (8, [.int x_th, .ref mwo, .ref mim, .ref mhi, .ref mlu, .ref mtp, .int x_td, .ref mfv, .int x_sz, .int x_at, .int x_fr, .int x_to, .int x_va, .int x_fk, .int x_fp, .ref mfr, .ref mwt, .int x_wt, .int x_op, .int x_jo, .ref mfg, .ref mpl, .long x_dr, .ref mtm, .ref mfa, .ref mqu, .ref mmo, .ref mwy, .ref mwn, .ref mma, .ref mwi, .ref mnu, .ref mmv])), (mfr, .inl (c_fr, 1875, .inl (upd f_31 (z_34 : Int32).toNatClampNeg a3)))] H := hP
  have hD : va_D A [(o0, .inr (8, [.int x_th, .ref mwo, .ref mim, .ref mhi, .ref mlu, .ref mtp, .int x_td, .ref mfv, .int x_sz, .int x_at, .int x_fr, .int x_to, .int x_va, .int x_fk, .int x_fp, .ref mfr, .ref mwt, .int x_wt, .int x_op, .int x_jo, .ref mfg, .ref mpl, .long x_dr, .ref mtm, .ref mfa, .ref mqu, .ref mmo, .ref mwy, .ref mwn, .ref mma, .ref mwi, .ref mnu, .ref mmv])), (mfr, .inl (c_fr, 1875, .inl (upd f_31 (z_34 : Int32).toNatClampNeg a3)))] := hD
  generalize ef_f_35 : (upd f_31 (z_34 : Int32).toNatClampNeg a3) = f_35 at hP hD
  have hP : va_P (dC, dI) vwCl [(o0, .inr (8, [.int x_th, .ref mwo, .ref mim, .ref mhi, .ref mlu, .ref mtp, .int x_td, .ref mfv, .int x_sz, .int x_at, .int x_fr, .int x_to, .int x_va, .int x_fk, .int x_fp, .ref mfr, .ref mwt, .int x_wt, .int x_op, .int x_jo, .ref mfg, .ref mpl, .long x_dr, .ref mtm, .ref mfa, .ref mqu, .ref mmo, .ref mwy, .ref mwn, .ref mma, .ref mwi, .ref mnu, .ref mmv])), (mfr, .inl (c_fr, 1875, .inl f_35))] H := hP
  have hD : va_D A [(o0, .inr (8, [.int x_th, .ref mwo, .ref mim, .ref mhi, .ref mlu, .ref mtp, .int x_td, .ref mfv, .int x_sz, .int x_at, .int x_fr, .int x_to, .int x_va, .int x_fk, .int x_fp, .ref mfr, .ref mwt, .int x_wt, .int x_op, .int x_jo, .ref mfg, .ref mpl, .long x_dr, .ref mtm, .ref mfa, .ref mqu, .ref mmo, .ref mwy, .ref mwn, .ref mma, .ref mwi, .ref mnu, .ref mmv])), (mfr, .inl (c_fr, 1875, .inl f_35))] := hD
  refine lv_aload_n hx hb dX10_step_60 rfl (lv_at hl 1 rfl) ?_
  refine va_get (D := (dC, dI)) (ci := 8) (v := .ref mfr) (C := RX10) (T := TX10) (N := 33) hx hb hts iX10_step_X10 hown hK hP 0 rfl rfl 15 (by decide) (hts (.fieldLink RX10 34 "LuckyTicketModel" "fresh" "[I") (List.mem_of_getElem? (i := 1) rfl)) (fun _ h9 => h9) rfl dX10_step_61 ?_
  refine lv_iconst (v := 5) hx hb dX10_step_64 (by decide) ?_
  refine lv_aload_n hx hb dX10_step_65 rfl (lv_at hl 1 rfl) ?_
  refine va_get (D := (dC, dI)) (ci := 8) (v := .ref mfr) (C := RX10) (T := TX10) (N := 33) hx hb hts iX10_step_X10 hown hK hP 0 rfl rfl 15 (by decide) (hts (.fieldLink RX10 34 "LuckyTicketModel" "fresh" "[I") (List.mem_of_getElem? (i := 1) rfl)) (fun _ h9 => h9) rfl dX10_step_66 ?_
  refine lv_iconst (v := 3) hx hb dX10_step_69 (by decide) ?_
  refine va_iald hx hb hK hP 1 0 rfl rfl (vp_in_b (by decide : (3 : Int) ≤ (3 : Int32).toInt ∧ (3 : Int32).toInt ≤ 3) (by decide) (by decide)) dX10_step_70 ?_
  refine lv_topi (fun z_36 e_z_36 => ?_)
  have en2 : z_36 = w_fr 3 := stf_n (by omega) (by omega) (by omega) ef_f_27 ef_f_31 ef_f_35 e_z_36
  have enn : z_36.toInt = z_21.toInt := by rw [en2, en_z_21]
  have b_z_36 : (0 : Int) ≤ z_36.toInt ∧ z_36.toInt ≤ 8 := by rw [en2]; exact hn3
  refine lv_iadd hx hb dX10_step_71 ?_
  refine lv_topi (fun z_37 e_z_37 => ?_)
  obtain ⟨q_z_37, b_z_37⟩ := ti_add (lo := 5) (hi := 13) e_z_37 (by decide : (5 : Int32).toInt = 5) rfl (by decide : (5 : Int) ≤ (5 : Int32).toInt ∧ (5 : Int32).toInt ≤ 5) b_z_36 (by decide)
  refine lv_iconst (v := 1) hx hb dX10_step_72 (by decide) ?_
  refine lv_iadd hx hb dX10_step_73 ?_
  refine lv_topi (fun z_38 e_z_38 => ?_)
  obtain ⟨q_z_38, b_z_38⟩ := ti_add (lo := 6) (hi := 14) e_z_38 rfl (by decide : (1 : Int32).toInt = 1) b_z_37 (by decide : (1 : Int) ≤ (1 : Int32).toInt ∧ (1 : Int32).toInt ≤ 1) (by decide)
  refine lv_iload hx hb dX10_step_74 (lv_at hl 0 rfl) ?_
  refine lv_iconst (v := 1) hx hb dX10_step_76 (by decide) ?_
  refine lv_iadd hx hb dX10_step_77 ?_
  refine lv_topi (fun z_39 e_z_39 => ?_)
  obtain ⟨q_z_39, b_z_39⟩ := ti_add (lo := 1) (hi := 619) e_z_39 rfl (by decide : (1 : Int32).toInt = 1) b_z_24 (by decide : (1 : Int) ≤ (1 : Int32).toInt ∧ (1 : Int32).toInt ≤ 1) (by decide)
  refine va_iast hx hb hK hP hD hS 1 0 rfl rfl (vp_in_b b_z_38 (by decide) (by decide)) dX10_step_78 (fun H locs hP hD hS => ?_)
  have hP : va_P (dC, dI) vwCl [(o0, .inr (8, [.int x_th, .ref mwo, .ref mim, .ref mhi, .ref mlu, .ref mtp, .int x_td, .ref mfv, .int x_sz, .int x_at, .int x_fr, .int x_to, .int x_va, .int x_fk, .int x_fp, .ref mfr, .ref mwt, .int x_wt, .int x_op, .int x_jo, .ref mfg, .ref mpl, .long x_dr, .ref mtm, .ref mfa, .ref mqu, .ref mmo, .ref mwy, .ref mwn, .ref mma, .ref mwi, .ref mnu, .ref mmv])), (mfr, .inl (c_fr, 1875, .inl (upd f_35 (z_38 : Int32).toNatClampNeg z_39)))] H := hP
  have hD : va_D A [(o0, .inr (8, [.int x_th, .ref mwo, .ref mim, .ref mhi, .ref mlu, .ref mtp, .int x_td, .ref mfv, .int x_sz, .int x_at, .int x_fr, .int x_to, .int x_va, .int x_fk, .int x_fp, .ref mfr, .ref mwt, .int x_wt, .int x_op, .int x_jo, .ref mfg, .ref mpl, .long x_dr, .ref mtm, .ref mfa, .ref mqu, .ref mmo, .ref mwy, .ref mwn, .ref mma, .ref mwi, .ref mnu, .ref mmv])), (mfr, .inl (c_fr, 1875, .inl (upd f_35 (z_38 : Int32).toNatClampNeg z_39)))] := hD
  generalize ef_f_40 : (upd f_35 (z_38 : Int32).toNatClampNeg z_39) = f_40 at hP hD
  have hP : va_P (dC, dI) vwCl [(o0, .inr (8, [.int x_th, .ref mwo, .ref mim, .ref mhi, .ref mlu, .ref mtp, .int x_td, .ref mfv, .int x_sz, .int x_at, .int x_fr, .int x_to, .int x_va, .int x_fk, .int x_fp, .ref mfr, .ref mwt, .int x_wt, .int x_op, .int x_jo, .ref mfg, .ref mpl, .long x_dr, .ref mtm, .ref mfa, .ref mqu, .ref mmo, .ref mwy, .ref mwn, .ref mma, .ref mwi, .ref mnu, .ref mmv])), (mfr, .inl (c_fr, 1875, .inl f_40))] H := hP
  have hD : va_D A [(o0, .inr (8, [.int x_th, .ref mwo, .ref mim, .ref mhi, .ref mlu, .ref mtp, .int x_td, .ref mfv, .int x_sz, .int x_at, .int x_fr, .int x_to, .int x_va, .int x_fk, .int x_fp, .ref mfr, .ref mwt, .int x_wt, .int x_op, .int x_jo, .ref mfg, .ref mpl, .long x_dr, .ref mtm, .ref mfa, .ref mqu, .ref mmo, .ref mwy, .ref mwn, .ref mma, .ref mwi, .ref mnu, .ref mmv])), (mfr, .inl (c_fr, 1875, .inl f_40))] := hD
  have hP9 := hP.sub (ws' := [(o0, .inr (8, [.int x_th, .ref mwo, .ref mim, .ref mhi, .ref mlu, .ref mtp, .int x_td, .ref mfv, .int x_sz, .int x_at, .int x_fr, .int x_to, .int x_va, .int x_fk, .int x_fp, .ref mfr, .ref mwt, .int x_wt, .int x_op, .int x_jo, .ref mfg, .ref mpl, .long x_dr, .ref mtm, .ref mfa, .ref mqu, .ref mmo, .ref mwy, .ref mwn, .ref mma, .ref mwi, .ref mnu, .ref mmv])), (mfr, .inl (c_fr, 1875, .inl f_40))]) [0, 1] rfl
  have hD9 := hD.sub (ws' := [(o0, .inr (8, [.int x_th, .ref mwo, .ref mim, .ref mhi, .ref mlu, .ref mtp, .int x_td, .ref mfv, .int x_sz, .int x_at, .int x_fr, .int x_to, .int x_va, .int x_fk, .int x_fp, .ref mfr, .ref mwt, .int x_wt, .int x_op, .int x_jo, .ref mfg, .ref mpl, .long x_dr, .ref mtm, .ref mfa, .ref mqu, .ref mmo, .ref mwy, .ref mwn, .ref mma, .ref mwi, .ref mnu, .ref mmv])), (mfr, .inl (c_fr, 1875, .inl f_40))]) [0, 1] (by decide) rfl
  have hK9 := hK.sub (tys' := [(c_fr, .int)]) [0] rfl
  exact W.vret hx hb hr (fun t ht hW => ⟨⟨(), rfl, trivial, f_40, (stf_of en_z_21 (by omega) (by omega) e_z_24 (by omega) (by omega) (by omega) (by omega) ef_f_27 ef_f_31 ef_f_35 (by omega) (by omega) ef_f_40), by rw [ht]; exact hP9, va_K.moved hW.alike hK9, hD9⟩, hS.F ht⟩) hS.2.2 dX10_step_79
theorem dX10_waitsFor_0 : decode cX10_waitsFor 0 = .ok (.aload_n 0, 1) := by decide +kernel
theorem dX10_waitsFor_1 : decode cX10_waitsFor 1 = .ok (.getfield 172, 3) := by decide +kernel
theorem dX10_waitsFor_4 : decode cX10_waitsFor 4 = .ok (.ifCond .le 22, 3) := by decide +kernel
theorem dX10_waitsFor_7 : decode cX10_waitsFor 7 = .ok (.aload_n 0, 1) := by decide +kernel
theorem dX10_waitsFor_8 : decode cX10_waitsFor 8 = .ok (.getfield 37, 3) := by decide +kernel
theorem dX10_waitsFor_11 : decode cX10_waitsFor 11 = .ok (.aload_n 0, 1) := by decide +kernel
theorem dX10_waitsFor_12 : decode cX10_waitsFor 12 = .ok (.getfield 172, 3) := by decide +kernel
theorem dX10_waitsFor_15 : decode cX10_waitsFor 15 = .ok (.iconst 1, 1) := by decide +kernel
theorem dX10_waitsFor_16 : decode cX10_waitsFor 16 = .ok (.isub, 1) := by decide +kernel
theorem dX10_waitsFor_17 : decode cX10_waitsFor 17 = .ok (.iaload, 1) := by decide +kernel
theorem dX10_waitsFor_18 : decode cX10_waitsFor 18 = .ok (.iload_n 1, 1) := by decide +kernel
theorem dX10_waitsFor_19 : decode cX10_waitsFor 19 = .ok (.if_icmp .ne 7, 3) := by decide +kernel
theorem dX10_waitsFor_22 : decode cX10_waitsFor 22 = .ok (.iconst 1, 1) := by decide +kernel
theorem dX10_waitsFor_23 : decode cX10_waitsFor 23 = .ok (.goto 4, 3) := by decide +kernel
theorem dX10_waitsFor_26 : decode cX10_waitsFor 26 = .ok (.iconst 0, 1) := by decide +kernel
theorem dX10_waitsFor_27 : decode cX10_waitsFor 27 = .ok (.ireturn, 1) := by decide +kernel
theorem hd_yX10_waitsFor : yX10_waitsFor.cls = RX10 ∧ yX10_waitsFor.cls ≠ "java/lang/invoke/MethodHandle" ∧ yX10_waitsFor.cls ≠ "java/lang/invoke/VarHandle" ∧ (parseMethodDescriptor yX10_waitsFor.desc).map (fun d => d.parameters.length) = some 1 := by decide +kernel
def uX10_waitsFor : List Cond := List.cons (.code yX10_waitsFor cX10_waitsFor 2 (some .boolean)) (HAppend.hAppend ([.fieldLink RX10 172 "LuckyTicketModel" "waiting" "I", .fieldLink RX10 37 "LuckyTicketModel" "waits" "[I"] : List Cond) wsX100)
theorem iX10_waitsFor_X10 : ∀ w ∈ wsX100, w ∈ uX10_waitsFor := fun _ h => (List.mem_cons_of_mem _ (List.mem_append_right _ h))
theorem guX10_waitsFor : GU uX10_waitsFor := gu_cons (gu_app (by decide +kernel) gws_X10)
set_option maxHeartbeats 4000000 in
set_option maxRecDepth 100000 in
theorem kX10_waitsFor (l : Launch) (dC : Nat → ClassId) (dI : Nat → Nat → Nat) (o0 : Nat) (x_th : Int32) (mwo : Nat) (mim : Nat) (mhi : Nat) (mlu : Nat) (mtp : Nat) (x_td : Int32) (mfv : Nat) (x_sz : Int32) (x_at : Int32) (x_fr : Int32) (x_to : Int32) (x_va : Int32) (x_fk : Int32) (x_fp : Int32) (mfr : Nat) (mwt : Nat) (x_wt : Int32) (x_op : Int32) (x_jo : Int32) (mfg : Nat) (mpl : Nat) (x_dr : Int64) (mtm : Nat) (mfa : Nat) (mqu : Nat) (mmo : Nat) (mwy : Nat) (mwn : Nat) (mma : Nat) (mwi : Nat) (mnu : Nat) (mmv : Nat) (c_wt : ClassId) (w_wt : Nat → Int32) (a1 : Int32) (b_x_sz : (0 : Int) ≤ x_sz.toInt ∧ x_sz.toInt ≤ 1200) (b_x_at : (0 : Int) ≤ x_at.toInt ∧ x_at.toInt ≤ 1200) (b_x_fr : (0 : Int) ≤ x_fr.toInt ∧ x_fr.toInt ≤ 1200) (b_x_to : (0 : Int) ≤ x_to.toInt ∧ x_to.toInt ≤ 6) (b_x_fk : (0 : Int) ≤ x_fk.toInt ∧ x_fk.toInt ≤ 3) (b_x_wt : (0 : Int) ≤ x_wt.toInt ∧ x_wt.toInt ≤ 30) : Met l yX10_waitsFor uX10_waitsFor ({ frames := 0, cells := 0, slots := 0, locals := 0 }) (va_Pc [.ref o0, .int a1] (pw (dC, dI) vwCl [(o0, .inr (8, [.int x_th, .ref mwo, .ref mim, .ref mhi, .ref mlu, .ref mtp, .int x_td, .ref mfv, .int x_sz, .int x_at, .int x_fr, .int x_to, .int x_va, .int x_fk, .int x_fp, .ref mfr, .ref mwt, .int x_wt, .int x_op, .int x_jo, .ref mfg, .ref mpl, .long x_dr, .ref mtm, .ref mfa, .ref mqu, .ref mmo, .ref mwy, .ref mwn, .ref mma, .ref mwi, .ref mnu, .ref mmv])), (mwt, .inl (c_wt, 78, .inl w_wt))] [(c_wt, .int)])) (vp_Si (fun r => ((0 : Int) ≤ r.toInt ∧ r.toInt ≤ 1) ∧ (r ≠ 0 → ((1 : Int) ≤ x_wt.toInt ∧ x_wt.toInt ≤ 30) ∧ ((w_wt (x_wt.toInt - 1).toNat).toInt = a1.toInt)) ∧ (r = 0 → (¬ (1 ≤ x_wt.toInt ∧ (w_wt (x_wt.toInt - 1).toNat).toInt = a1.toInt))))) 0 0 (fun _ => False) := by
  refine Met.ofW (cc := cX10_waitsFor) (maxL := 2) (ret := (some .boolean)) pn_X10 rfl ?_
  intro p e s m args below meth c s₁ B hml hv
  obtain ⟨rfl, hP, hK, hN⟩ := hv
  have hx := B.exec
  have hb := B.bytes
  have hr := B.returns
  have hts := atoms_spec (ws := uX10_waitsFor) B.pre
  have hown : s.vm.findClass RX10 = some m.cls := hown_of B.named rfl
  have hlocks := B.notSynchronized
  have hl := lv_entry ([.ref o0, .int a1]) (n := 2) (Nat.le_of_ble_eq_true rfl)
  rw [lg_entry_eq]
  generalize (lg_sl ([.ref o0, .int a1]) ++ List.replicate (2 - (lg_sl ([.ref o0, .int a1])).length) Slot.unset).toArray = ls at hl ⊢
  have hl : lv_has ls 2 [(0, .ref o0), (1, .int a1)] := hl
  refine lv_aload_n hx hb dX10_waitsFor_0 rfl (lv_at hl 0 rfl) ?_
  refine va_get (D := (dC, dI)) (ci := 8) (v := .int x_wt) (C := RX10) (T := TX10) (N := 33) hx hb hts iX10_waitsFor_X10 hown hK hP 0 rfl rfl 17 (by decide) (hts (.fieldLink RX10 172 "LuckyTicketModel" "waiting" "I") (List.mem_of_getElem? (i := 1) rfl)) (fun _ h9 => h9) rfl dX10_waitsFor_1 ?_
  refine lv_if_le (tgt := 26) hx hb dX10_waitsFor_4 (by decide) (fun c_5 => ?_) (fun c_5 => ?_)
  ·
    have n_c_5 : (x_wt.toInt : Int) ≤ 0 := c_le rfl (by decide) c_5
    have b_x_wt : (0 : Int) ≤ x_wt.toInt ∧ x_wt.toInt ≤ 0 := r_le1 b_x_wt (by decide : (0 : Int) ≤ (0 : Int32).toInt ∧ (0 : Int32).toInt ≤ 0) n_c_5 (by decide)
    refine lv_iconst (v := 0) hx hb dX10_waitsFor_26 (by decide) ?_
    exact W.zret (v := 0) hx hb hr rfl (fun t ht hW => ⟨0, rfl, ⟨(rg_w (by decide : (0 : Int) ≤ (0 : Int32).toInt ∧ (0 : Int32).toInt ≤ 0) (by decide) (by decide)), (fun h9 => absurd rfl h9), (fun _ => (by omega))⟩, ht⟩) t_nil dX10_waitsFor_27
  ·
    have n_c_5 : (0 : Int) < x_wt.toInt := c_nle rfl (by decide) c_5
    have b_x_wt : (1 : Int) ≤ x_wt.toInt ∧ x_wt.toInt ≤ 30 := r_lt2 (by decide : (0 : Int) ≤ (0 : Int32).toInt ∧ (0 : Int32).toInt ≤ 0) b_x_wt n_c_5 (by decide)
    refine lv_aload_n hx hb dX10_waitsFor_7 rfl (lv_at hl 0 rfl) ?_
    refine va_get (D := (dC, dI)) (ci := 8) (v := .ref mwt) (C := RX10) (T := TX10) (N := 33) hx hb hts iX10_waitsFor_X10 hown hK hP 0 rfl rfl 16 (by decide) (hts (.fieldLink RX10 37 "LuckyTicketModel" "waits" "[I") (List.mem_of_getElem? (i := 2) rfl)) (fun _ h9 => h9) rfl dX10_waitsFor_8 ?_
    refine lv_aload_n hx hb dX10_waitsFor_11 rfl (lv_at hl 0 rfl) ?_
    refine va_get (D := (dC, dI)) (ci := 8) (v := .int x_wt) (C := RX10) (T := TX10) (N := 33) hx hb hts iX10_waitsFor_X10 hown hK hP 0 rfl rfl 17 (by decide) (hts (.fieldLink RX10 172 "LuckyTicketModel" "waiting" "I") (List.mem_of_getElem? (i := 1) rfl)) (fun _ h9 => h9) rfl dX10_waitsFor_12 ?_
    refine lv_iconst (v := 1) hx hb dX10_waitsFor_15 (by decide) ?_
    refine lv_isub hx hb dX10_waitsFor_16 ?_
    refine lv_topi (fun z_6 e_z_6 => ?_)
    obtain ⟨q_z_6, b_z_6⟩ := ti_sub (lo := 0) (hi := 29) e_z_6 rfl (by decide : (1 : Int32).toInt = 1) b_x_wt (by decide : (1 : Int) ≤ (1 : Int32).toInt ∧ (1 : Int32).toInt ≤ 1) (by decide)
    refine va_iald hx hb hK hP 1 0 rfl rfl (vp_in_b b_z_6 (by decide) (by decide)) dX10_waitsFor_17 ?_
    refine lv_topi (fun z_7 e_z_7 => ?_)
    have ew_z_7 : (w_wt (x_wt.toInt - 1).toNat).toInt = z_7.toInt := by
      rw [e_z_7]
      show _ = (w_wt z_6.toInt.toNat).toInt
      rw [show z_6.toInt.toNat = (x_wt.toInt - 1).toNat from by omega]
    refine lv_iload_n hx hb dX10_waitsFor_18 rfl (lv_at hl 1 rfl) ?_
    refine lv_icmp_ne (tgt := 26) hx hb dX10_waitsFor_19 (by decide) (fun c_8 => ?_) (fun c_8 => ?_)
    ·
      have n_c_8 : (z_7.toInt : Int) ≠ a1.toInt := c_ne rfl rfl c_8
      refine lv_iconst (v := 0) hx hb dX10_waitsFor_26 (by decide) ?_
      exact W.zret (v := 0) hx hb hr rfl (fun t ht hW => ⟨0, rfl, ⟨(rg_w (by decide : (0 : Int) ≤ (0 : Int32).toInt ∧ (0 : Int32).toInt ≤ 0) (by decide) (by decide)), (fun h9 => absurd rfl h9), (fun _ => (by omega))⟩, ht⟩) t_nil dX10_waitsFor_27
    ·
      have n_c_8 : (z_7.toInt : Int) = a1.toInt := c_eq rfl rfl c_8
      refine lv_iconst (v := 1) hx hb dX10_waitsFor_22 (by decide) ?_
      refine lv_goto (tgt := 27) hx hb dX10_waitsFor_23 (by decide) ?_
      exact W.zret (v := 1) hx hb hr rfl (fun t ht hW => ⟨1, rfl, ⟨(rg_w (by decide : (1 : Int) ≤ (1 : Int32).toInt ∧ (1 : Int32).toInt ≤ 1) (by decide) (by decide)), (fun _ => ⟨⟨by omega, by omega⟩, (by omega)⟩), (fun h9 => absurd h9 (by decide))⟩, ht⟩) t_nil dX10_waitsFor_27
theorem dX10_done_0 : decode cX10_done 0 = .ok (.aload_n 0, 1) := by decide +kernel
theorem dX10_done_1 : decode cX10_done 1 = .ok (.dup, 1) := by decide +kernel
theorem dX10_done_2 : decode cX10_done 2 = .ok (.getfield 172, 3) := by decide +kernel
theorem dX10_done_5 : decode cX10_done 5 = .ok (.iconst 1, 1) := by decide +kernel
theorem dX10_done_6 : decode cX10_done 6 = .ok (.isub, 1) := by decide +kernel
theorem dX10_done_7 : decode cX10_done 7 = .ok (.putfield 172, 3) := by decide +kernel
theorem dX10_done_10 : decode cX10_done 10 = .ok (.aload_n 0, 1) := by decide +kernel
theorem dX10_done_11 : decode cX10_done 11 = .ok (.aload_n 0, 1) := by decide +kernel
theorem dX10_done_12 : decode cX10_done 12 = .ok (.getfield 37, 3) := by decide +kernel
theorem dX10_done_15 : decode cX10_done 15 = .ok (.aload_n 0, 1) := by decide +kernel
theorem dX10_done_16 : decode cX10_done 16 = .ok (.getfield 172, 3) := by decide +kernel
theorem dX10_done_19 : decode cX10_done 19 = .ok (.iaload, 1) := by decide +kernel
theorem dX10_done_20 : decode cX10_done 20 = .ok (.iconst 0, 1) := by decide +kernel
theorem dX10_done_21 : decode cX10_done 21 = .ok (.iconst 0, 1) := by decide +kernel
theorem dX10_done_22 : decode cX10_done 22 = .ok (.invokevirtual 175, 3) := by decide +kernel
theorem dX10_done_25 : decode cX10_done 25 = .ok (.return_, 1) := by decide +kernel
theorem hd_yX10_done : yX10_done.cls = RX10 ∧ yX10_done.cls ≠ "java/lang/invoke/MethodHandle" ∧ yX10_done.cls ≠ "java/lang/invoke/VarHandle" ∧ (parseMethodDescriptor yX10_done.desc).map (fun d => d.parameters.length) = some 0 := by decide +kernel
def uX10_done : List Cond := List.cons (.code yX10_done cX10_done 1 none) (HAppend.hAppend ([.fieldLink RX10 172 "LuckyTicketModel" "waiting" "I", .fieldLink RX10 37 "LuckyTicketModel" "waits" "[I", .methodLink RX10 175 yX10_step, .instanceMethod yX10_step, .selects RX10 yX10_step yX10_step, .initialized RX10] : List Cond) (HAppend.hAppend uX10_step wsX100))
theorem iX10_done_X10 : ∀ w ∈ wsX100, w ∈ uX10_done := fun _ h => (List.mem_cons_of_mem _ (List.mem_append_right _ (List.mem_append_right _ h)))
theorem guX10_done : GU uX10_done := gu_cons (gu_app (by decide +kernel) (gu_ap guX10_step gws_X10))
theorem gX10_done__X10_step_V175 : GoodIn uX10_done (wsV RX10 175 RX10 yX10_step uX10_step) := gin_V (List.mem_of_getElem? (i := 3) rfl) (List.mem_of_getElem? (i := 4) rfl) (List.mem_of_getElem? (i := 5) rfl) (List.mem_of_getElem? (i := 6) rfl) (fun _ h => (List.mem_cons_of_mem _ (List.mem_append_right _ (List.mem_append_left _ h)))) guX10_step
set_option maxHeartbeats 4000000 in
set_option maxRecDepth 100000 in
theorem kX10_done (l : Launch) (dC : Nat → ClassId) (dI : Nat → Nat → Nat) (o0 : Nat) (x_th : Int32) (mwo : Nat) (mim : Nat) (mhi : Nat) (mlu : Nat) (mtp : Nat) (x_td : Int32) (mfv : Nat) (x_sz : Int32) (x_at : Int32) (x_fr : Int32) (x_to : Int32) (x_va : Int32) (x_fk : Int32) (x_fp : Int32) (mfr : Nat) (mwt : Nat) (x_wt : Int32) (x_op : Int32) (x_jo : Int32) (mfg : Nat) (mpl : Nat) (x_dr : Int64) (mtm : Nat) (mfa : Nat) (mqu : Nat) (mmo : Nat) (mwy : Nat) (mwn : Nat) (mma : Nat) (mwi : Nat) (mnu : Nat) (mmv : Nat) (c_fr : ClassId) (c_wt : ClassId) (w_fr : Nat → Int32) (w_wt : Nat → Int32) (sz : Nat) (b_x_sz : (0 : Int) ≤ x_sz.toInt ∧ x_sz.toInt ≤ 1200) (b_x_at : (0 : Int) ≤ x_at.toInt ∧ x_at.toInt ≤ 1200) (b_x_fr : (0 : Int) ≤ x_fr.toInt ∧ x_fr.toInt ≤ 1200) (b_x_to : (0 : Int) ≤ x_to.toInt ∧ x_to.toInt ≤ 6) (b_x_fk : (0 : Int) ≤ x_fk.toInt ∧ x_fk.toInt ≤ 3) (b_x_wt : (1 : Int) ≤ x_wt.toInt ∧ x_wt.toInt ≤ 30) (b_x_op : (-30 : Int) ≤ x_op.toInt ∧ x_op.toInt ≤ 6) (b_x_jo : (0 : Int) ≤ x_jo.toInt ∧ x_jo.toInt ≤ 24) (hli : LI w_fr w_wt x_wt x_jo x_fr 1) (hdk : 1 ≤ x_wt.toInt) (hdn : (w_wt (x_wt.toInt - 1).toNat).toInt = 9 ∨ (w_wt (x_wt.toInt - 1).toNat).toInt = 10 ∨ (w_wt (x_wt.toInt - 1).toNat).toInt = 11) : Met l yX10_done uX10_done ({ frames := 1, cells := 0, slots := 0, locals := 24 }) (va_Pc [.ref o0] (hw (dC, dI) vwCl [(o0, .inr (8, [.int x_th, .ref mwo, .ref mim, .ref mhi, .ref mlu, .ref mtp, .int x_td, .ref mfv, .int x_sz, .int x_at, .int x_fr, .int x_to, .int x_va, .int x_fk, .int x_fp, .ref mfr, .ref mwt, .int x_wt, .int x_op, .int x_jo, .ref mfg, .ref mpl, .long x_dr, .ref mtm, .ref mfa, .ref mqu, .ref mmo, .ref mwy, .ref mwn, .ref mma, .ref mwi, .ref mnu, .ref mmv])), (mfr, .inl (c_fr, 1875, .inl w_fr)), (mwt, .inl (c_wt, 78, .inl w_wt))] [(c_fr, .int), (c_wt, .int)] sz)) (va_Qv (fun (_ : Unit) => True) (fun (_ : Unit) t => ∃ (o0_ : Int32) (o1_ : Nat → Int32), ((0 : Int) ≤ o0_.toInt ∧ o0_.toInt ≤ 29) ∧ (LI o1_ w_wt o0_ x_jo x_fr 1) ∧ (o0_.toInt = x_wt.toInt - 1) ∧ va_P (dC, dI) vwCl [(o0, .inr (8, [.int x_th, .ref mwo, .ref mim, .ref mhi, .ref mlu, .ref mtp, .int x_td, .ref mfv, .int x_sz, .int x_at, .int x_fr, .int x_to, .int x_va, .int x_fk, .int x_fp, .ref mfr, .ref mwt, .int o0_, .int x_op, .int x_jo, .ref mfg, .ref mpl, .long x_dr, .ref mtm, .ref mfa, .ref mqu, .ref mmo, .ref mwy, .ref mwn, .ref mma, .ref mwi, .ref mnu, .ref mmv])), (mfr, .inl (c_fr, 1875, .inl o1_)), (mwt, .inl (c_wt, 78, .inl w_wt))] t.heap ∧ va_K (dC, dI) vwCl [(c_fr, .int), (c_wt, .int)] t ∧ va_D (va_A [(o0, .inr (8, [.int x_th, .ref mwo, .ref mim, .ref mhi, .ref mlu, .ref mtp, .int x_td, .ref mfv, .int x_sz, .int x_at, .int x_fr, .int x_to, .int x_va, .int x_fk, .int x_fp, .ref mfr, .ref mwt, .int x_wt, .int x_op, .int x_jo, .ref mfg, .ref mpl, .long x_dr, .ref mtm, .ref mfa, .ref mqu, .ref mmo, .ref mwy, .ref mwn, .ref mma, .ref mwi, .ref mnu, .ref mmv])), (mfr, .inl (c_fr, 1875, .inl w_fr)), (mwt, .inl (c_wt, 78, .inl w_wt))] sz) [(o0, .inr (8, [.int x_th, .ref mwo, .ref mim, .ref mhi, .ref mlu, .ref mtp, .int x_td, .ref mfv, .int x_sz, .int x_at, .int x_fr, .int x_to, .int x_va, .int x_fk, .int x_fp, .ref mfr, .ref mwt, .int o0_, .int x_op, .int x_jo, .ref mfg, .ref mpl, .long x_dr, .ref mtm, .ref mfa, .ref mqu, .ref mmo, .ref mwy, .ref mwn, .ref mma, .ref mwi, .ref mnu, .ref mmv])), (mfr, .inl (c_fr, 1875, .inl o1_)), (mwt, .inl (c_wt, 78, .inl w_wt))]) (va_A [(o0, .inr (8, [.int x_th, .ref mwo, .ref mim, .ref mhi, .ref mlu, .ref mtp, .int x_td, .ref mfv, .int x_sz, .int x_at, .int x_fr, .int x_to, .int x_va, .int x_fk, .int x_fp, .ref mfr, .ref mwt, .int x_wt, .int x_op, .int x_jo, .ref mfg, .ref mpl, .long x_dr, .ref mtm, .ref mfa, .ref mqu, .ref mmo, .ref mwy, .ref mwn, .ref mma, .ref mwi, .ref mnu, .ref mmv])), (mfr, .inl (c_fr, 1875, .inl w_fr)), (mwt, .inl (c_wt, 78, .inl w_wt))] sz)) 0 0 (va_A [(o0, .inr (8, [.int x_th, .ref mwo, .ref mim, .ref mhi, .ref mlu, .ref mtp, .int x_td, .ref mfv, .int x_sz, .int x_at, .int x_fr, .int x_to, .int x_va, .int x_fk, .int x_fp, .ref mfr, .ref mwt, .int x_wt, .int x_op, .int x_jo, .ref mfg, .ref mpl, .long x_dr, .ref mtm, .ref mfa, .ref mqu, .ref mmo, .ref mwy, .ref mwn, .ref mma, .ref mwi, .ref mnu, .ref mmv])), (mfr, .inl (c_fr, 1875, .inl w_fr)), (mwt, .inl (c_wt, 78, .inl w_wt))] sz) := by
  refine Met.ofW (cc := cX10_done) (maxL := 1) (ret := none) pn_X10 rfl ?_
  intro p e s m args below meth c s₁ B hml hv
  obtain ⟨rfl, hsz, hP, hK, hD0, hN⟩ := hv
  have hx := B.exec
  have hb := B.bytes
  have hr := B.returns
  have hts := atoms_spec (ws := uX10_done) B.pre
  have hown : s.vm.findClass RX10 = some m.cls := hown_of B.named rfl
  have hlocks := B.notSynchronized
  subst hsz
  have hD := hD0.self (sz := s.heap.size)
  generalize hAe : va_A [(o0, .inr (8, [.int x_th, .ref mwo, .ref mim, .ref mhi, .ref mlu, .ref mtp, .int x_td, .ref mfv, .int x_sz, .int x_at, .int x_fr, .int x_to, .int x_va, .int x_fk, .int x_fp, .ref mfr, .ref mwt, .int x_wt, .int x_op, .int x_jo, .ref mfg, .ref mpl, .long x_dr, .ref mtm, .ref mfa, .ref mqu, .ref mmo, .ref mwy, .ref mwn, .ref mma, .ref mwi, .ref mnu, .ref mmv])), (mfr, .inl (c_fr, 1875, .inl w_fr)), (mwt, .inl (c_wt, 78, .inl w_wt))] s.heap.size = A at hD ⊢
  have hA : ∀ q : Nat, s.heap.size ≤ q → A q := fun q h => by rw [← hAe]; exact Or.inr h
  have hS : va_S A s.heap s.heap [] := va_S.rf
  have hP : va_P (dC, dI) vwCl [(o0, .inr (8, [.int x_th, .ref mwo, .ref mim, .ref mhi, .ref mlu, .ref mtp, .int x_td, .ref mfv, .int x_sz, .int x_at, .int x_fr, .int x_to, .int x_va, .int x_fk, .int x_fp, .ref mfr, .ref mwt, .int x_wt, .int x_op, .int x_jo, .ref mfg, .ref mpl, .long x_dr, .ref mtm, .ref mfa, .ref mqu, .ref mmo, .ref mwy, .ref mwn, .ref mma, .ref mwi, .ref mnu, .ref mmv])), (mfr, .inl (c_fr, 1875, .inl w_fr)), (mwt, .inl (c_wt, 78, .inl w_wt))] s.heap := hP
  have hl := lv_entry ([.ref o0]) (n := 1) (Nat.le_of_ble_eq_true rfl)
  rw [lg_entry_eq]
  generalize (lg_sl ([.ref o0]) ++ List.replicate (1 - (lg_sl ([.ref o0])).length) Slot.unset).toArray = ls at hl ⊢
  have hl : lv_has ls 1 [(0, .ref o0)] := hl
  have hlk := hli.k (by omega)
  refine lv_aload_n hx hb dX10_done_0 rfl (lv_at hl 0 rfl) ?_
  refine lv_dup hx hb dX10_done_1 rfl ?_
  refine va_get (D := (dC, dI)) (ci := 8) (v := .int x_wt) (C := RX10) (T := TX10) (N := 33) hx hb hts iX10_done_X10 hown hK hP 0 rfl rfl 17 (by decide) (hts (.fieldLink RX10 172 "LuckyTicketModel" "waiting" "I") (List.mem_of_getElem? (i := 1) rfl)) (fun _ h9 => h9) rfl dX10_done_2 ?_
  refine lv_iconst (v := 1) hx hb dX10_done_5 (by decide) ?_
  refine lv_isub hx hb dX10_done_6 ?_
  refine lv_topi (fun z_7 e_z_7 => ?_)
  obtain ⟨q_z_7, b_z_7⟩ := ti_sub (lo := 0) (hi := 29) e_z_7 rfl (by decide : (1 : Int32).toInt = 1) b_x_wt (by decide : (1 : Int) ≤ (1 : Int32).toInt ∧ (1 : Int32).toInt ≤ 1) (by decide)
  refine va_put (D := (dC, dI)) (ci := 8) (v := .int z_7) (ty := .int) (C := RX10) (T := TX10) (N := 33) hx hb hts iX10_done_X10 tyX10 tyX10_ok nmX10 hown hK hP hD hS 0 rfl rfl 17 (by decide) (hts (.fieldLink RX10 172 "LuckyTicketModel" "waiting" "I") (List.mem_of_getElem? (i := 1) rfl)) (fun _ h9 => h9) rfl (by decide +kernel) rfl rfl (Nat.le_of_ble_eq_true rfl) dX10_done_7 (fun H locs hP hD hS => ?_)
  have hP : va_P (dC, dI) vwCl [(o0, .inr (8, [.int x_th, .ref mwo, .ref mim, .ref mhi, .ref mlu, .ref mtp, .int x_td, .ref mfv, .int x_sz, .int x_at, .int x_fr, .int x_to, .int x_va, .int x_fk, .int x_fp, .ref mfr, .ref mwt, .int z_7, .int x_op, .int x_jo, .ref mfg, .ref mpl, .long x_dr, .ref mtm, .ref mfa, .ref mqu, .ref mmo, .ref mwy, .ref mwn, .ref mma, .ref mwi, .ref mnu, .ref mmv])), (mfr, .inl (c_fr, 1875, .inl w_fr)), (mwt, .inl (c_wt, 78, .inl w_wt))] H := hP
  have hD : va_D A [(o0, .inr (8, [.int x_th, .ref mwo, .ref mim, .ref mhi, .ref mlu, .ref mtp, .int x_td, .ref mfv, .int x_sz, .int x_at, .int x_fr, .int x_to, .int x_va, .int x_fk, .int x_fp, .ref mfr, .ref mwt, .int z_7, .int x_op, .int x_jo, .ref mfg, .ref mpl, .long x_dr, .ref mtm, .ref mfa, .ref mqu, .ref mmo, .ref mwy, .ref mwn, .ref mma, .ref mwi, .ref mnu, .ref mmv])), (mfr, .inl (c_fr, 1875, .inl w_fr)), (mwt, .inl (c_wt, 78, .inl w_wt))] := hD
  refine lv_aload_n hx hb dX10_done_10 rfl (lv_at hl 0 rfl) ?_
  refine lv_aload_n hx hb dX10_done_11 rfl (lv_at hl 0 rfl) ?_
  refine va_get (D := (dC, dI)) (ci := 8) (v := .ref mwt) (C := RX10) (T := TX10) (N := 33) hx hb hts iX10_done_X10 hown hK hP 0 rfl rfl 16 (by decide) (hts (.fieldLink RX10 37 "LuckyTicketModel" "waits" "[I") (List.mem_of_getElem? (i := 2) rfl)) (fun _ h9 => h9) rfl dX10_done_12 ?_
  refine lv_aload_n hx hb dX10_done_15 rfl (lv_at hl 0 rfl) ?_
  refine va_get (D := (dC, dI)) (ci := 8) (v := .int z_7) (C := RX10) (T := TX10) (N := 33) hx hb hts iX10_done_X10 hown hK hP 0 rfl rfl 17 (by decide) (hts (.fieldLink RX10 172 "LuckyTicketModel" "waiting" "I") (List.mem_of_getElem? (i := 1) rfl)) (fun _ h9 => h9) rfl dX10_done_16 ?_
  refine va_iald hx hb hK hP 2 1 rfl rfl (vp_in_b b_z_7 (by decide) (by decide)) dX10_done_19 ?_
  refine lv_topi (fun z_8 e_z_8 => ?_)
  have ew_z_8 : (w_wt (x_wt.toInt - 1).toNat).toInt = z_8.toInt := by
    rw [e_z_8]
    show _ = (w_wt z_7.toInt.toNat).toInt
    rw [show z_7.toInt.toNat = (x_wt.toInt - 1).toNat from by omega]
  refine lv_iconst (v := 0) hx hb dX10_done_20 (by decide) ?_
  refine lv_iconst (v := 0) hx hb dX10_done_21 (by decide) ?_
  have hFc := va_free (wc := [(o0, .inr (8, [.int x_th, .ref mwo, .ref mim, .ref mhi, .ref mlu, .ref mtp, .int x_td, .ref mfv, .int x_sz, .int x_at, .int x_fr, .int x_to, .int x_va, .int x_fk, .int x_fp, .ref mfr, .ref mwt, .int z_7, .int x_op, .int x_jo, .ref mfg, .ref mpl, .long x_dr, .ref mtm, .ref mfa, .ref mqu, .ref mmo, .ref mwy, .ref mwn, .ref mma, .ref mwi, .ref mnu, .ref mmv])), (mfr, .inl (c_fr, 1875, .inl w_fr))]) hD hS hA [0, 1] rfl
  refine va_callv (va_runV (As := [.int z_8, .int 0, .int 0]) (rest := []) ⟨hx, hb, hml, hown, hts⟩ (kX10_step l dC dI o0 x_th mwo mim mhi mlu mtp x_td mfv x_sz x_at x_fr x_to x_va x_fk x_fp mfr mwt z_7 x_op x_jo mfg mpl x_dr mtm mfa mqu mmo mwy mwn mma mwi mnu mmv c_fr w_fr z_8 0 0 (H.size) b_x_sz b_x_at b_x_fr b_x_to b_x_fk (by omega) (by omega)) (cwV 3 hts gX10_done__X10_step_V175 rfl rfl rfl hd_yX10_step ⟨lel 1 1 rfl, lel 24 24 rfl⟩) ⟨hw_fb, rcv_X10 hK hP (q0 := 0) rfl, (hw_use hP hD hK hN [0, 1] rfl (by decide) rfl [0] rfl)⟩ rfl rfl hl.1 rfl (lv_room (Nat.le_of_ble_eq_true rfl)) dX10_done_22 ⟨lel 0 0 rfl, lel 0 0 rfl⟩) hS (fun q _ h => hFc q h) hFc (fun u_10 t H1 locs ht hvm hw_r_9 hB hz1 hk1 hS => ?_)
  obtain ⟨o0_11, hf_12, hP1, hK1, hD1⟩ := hB
  rw [ht] at hP1
  have hK1 := va_K.moved hvm.symm hK1
  obtain ⟨hP, hD⟩ := va_join (wr := [(mwt, .inl (c_wt, 78, .inl w_wt))]) (w1 := [(o0, .inr (8, [.int x_th, .ref mwo, .ref mim, .ref mhi, .ref mlu, .ref mtp, .int x_td, .ref mfv, .int x_sz, .int x_at, .int x_fr, .int x_to, .int x_va, .int x_fk, .int x_fp, .ref mfr, .ref mwt, .int z_7, .int x_op, .int x_jo, .ref mfg, .ref mpl, .long x_dr, .ref mtm, .ref mfa, .ref mqu, .ref mmo, .ref mwy, .ref mwn, .ref mma, .ref mwi, .ref mnu, .ref mmv])), (mfr, .inl (c_fr, 1875, .inl o0_11))]) hP hD [0, 1] [2] rfl rfl (by decide) (by decide) hk1 hFc hP1 hD1
  have hK := (hK.sub (tys' := [(c_wt, .int)]) [1] rfl).app hK1
  generalize H1 = H at hP hS ⊢
  have hP := hP.sub (ws' := [(o0, .inr (8, [.int x_th, .ref mwo, .ref mim, .ref mhi, .ref mlu, .ref mtp, .int x_td, .ref mfv, .int x_sz, .int x_at, .int x_fr, .int x_to, .int x_va, .int x_fk, .int x_fp, .ref mfr, .ref mwt, .int z_7, .int x_op, .int x_jo, .ref mfg, .ref mpl, .long x_dr, .ref mtm, .ref mfa, .ref mqu, .ref mmo, .ref mwy, .ref mwn, .ref mma, .ref mwi, .ref mnu, .ref mmv])), (mfr, .inl (c_fr, 1875, .inl o0_11)), (mwt, .inl (c_wt, 78, .inl w_wt))]) [1, 2, 0] rfl
  have hD := hD.sub (ws' := [(o0, .inr (8, [.int x_th, .ref mwo, .ref mim, .ref mhi, .ref mlu, .ref mtp, .int x_td, .ref mfv, .int x_sz, .int x_at, .int x_fr, .int x_to, .int x_va, .int x_fk, .int x_fp, .ref mfr, .ref mwt, .int z_7, .int x_op, .int x_jo, .ref mfg, .ref mpl, .long x_dr, .ref mtm, .ref mfa, .ref mqu, .ref mmo, .ref mwy, .ref mwn, .ref mma, .ref mwi, .ref mnu, .ref mmv])), (mfr, .inl (c_fr, 1875, .inl o0_11)), (mwt, .inl (c_wt, 78, .inl w_wt))]) [1, 2, 0] (by decide) rfl
  have hK := hK.sub (tys' := [(c_fr, .int), (c_wt, .int)]) [1, 0] rfl
  have hP : va_P (dC, dI) vwCl [(o0, .inr (8, [.int x_th, .ref mwo, .ref mim, .ref mhi, .ref mlu, .ref mtp, .int x_td, .ref mfv, .int x_sz, .int x_at, .int x_fr, .int x_to, .int x_va, .int x_fk, .int x_fp, .ref mfr, .ref mwt, .int z_7, .int x_op, .int x_jo, .ref mfg, .ref mpl, .long x_dr, .ref mtm, .ref mfa, .ref mqu, .ref mmo, .ref mwy, .ref mwn, .ref mma, .ref mwi, .ref mnu, .ref mmv])), (mfr, .inl (c_fr, 1875, .inl o0_11)), (mwt, .inl (c_wt, 78, .inl w_wt))] H := hP
  have hD : va_D A [(o0, .inr (8, [.int x_th, .ref mwo, .ref mim, .ref mhi, .ref mlu, .ref mtp, .int x_td, .ref mfv, .int x_sz, .int x_at, .int x_fr, .int x_to, .int x_va, .int x_fk, .int x_fp, .ref mfr, .ref mwt, .int z_7, .int x_op, .int x_jo, .ref mfg, .ref mpl, .long x_dr, .ref mtm, .ref mfa, .ref mqu, .ref mmo, .ref mwy, .ref mwn, .ref mma, .ref mwi, .ref mnu, .ref mmv])), (mfr, .inl (c_fr, 1875, .inl o0_11)), (mwt, .inl (c_wt, 78, .inl w_wt))] := hD
  have hK : va_K (dC, dI) vwCl [(c_fr, .int), (c_wt, .int)] s := hK
  have hP9 := hP.sub (ws' := [(o0, .inr (8, [.int x_th, .ref mwo, .ref mim, .ref mhi, .ref mlu, .ref mtp, .int x_td, .ref mfv, .int x_sz, .int x_at, .int x_fr, .int x_to, .int x_va, .int x_fk, .int x_fp, .ref mfr, .ref mwt, .int z_7, .int x_op, .int x_jo, .ref mfg, .ref mpl, .long x_dr, .ref mtm, .ref mfa, .ref mqu, .ref mmo, .ref mwy, .ref mwn, .ref mma, .ref mwi, .ref mnu, .ref mmv])), (mfr, .inl (c_fr, 1875, .inl o0_11)), (mwt, .inl (c_wt, 78, .inl w_wt))]) [0, 1, 2] rfl
  have hD9 := hD.sub (ws' := [(o0, .inr (8, [.int x_th, .ref mwo, .ref mim, .ref mhi, .ref mlu, .ref mtp, .int x_td, .ref mfv, .int x_sz, .int x_at, .int x_fr, .int x_to, .int x_va, .int x_fk, .int x_fp, .ref mfr, .ref mwt, .int z_7, .int x_op, .int x_jo, .ref mfg, .ref mpl, .long x_dr, .ref mtm, .ref mfa, .ref mqu, .ref mmo, .ref mwy, .ref mwn, .ref mma, .ref mwi, .ref mnu, .ref mmv])), (mfr, .inl (c_fr, 1875, .inl o0_11)), (mwt, .inl (c_wt, 78, .inl w_wt))]) [0, 1, 2] (by decide) rfl
  have hK9 := hK.sub (tys' := [(c_fr, .int), (c_wt, .int)]) [0, 1] rfl
  exact W.vret hx hb hr (fun t ht hW => ⟨⟨(), rfl, trivial, z_7, o0_11, b_z_7, (hli.done (by omega) (by omega) e_z_8 (by omega) hf_12), (by omega), by rw [ht]; exact hP9, va_K.moved hW.alike hK9, hD9⟩, hS.F ht⟩) hS.2.2 dX10_done_25
theorem dX10_doneNots_0 : decode cX10_doneNots 0 = .ok (.aload_n 0, 1) := by decide +kernel
theorem dX10_doneNots_1 : decode cX10_doneNots 1 = .ok (.bipush 9, 2) := by decide +kernel
theorem dX10_doneNots_3 : decode cX10_doneNots 3 = .ok (.invokevirtual 179, 3) := by decide +kernel
theorem dX10_doneNots_6 : decode cX10_doneNots 6 = .ok (.ifCond .eq 20, 3) := by decide +kernel
theorem dX10_doneNots_9 : decode cX10_doneNots 9 = .ok (.aload_n 0, 1) := by decide +kernel
theorem dX10_doneNots_10 : decode cX10_doneNots 10 = .ok (.invokevirtual 182, 3) := by decide +kernel
theorem dX10_doneNots_13 : decode cX10_doneNots 13 = .ok (.aload_n 0, 1) := by decide +kernel
theorem dX10_doneNots_14 : decode cX10_doneNots 14 = .ok (.dup, 1) := by decide +kernel
theorem dX10_doneNots_15 : decode cX10_doneNots 15 = .ok (.getfield 185, 3) := by decide +kernel
theorem dX10_doneNots_18 : decode cX10_doneNots 18 = .ok (.iconst 1, 1) := by decide +kernel
theorem dX10_doneNots_19 : decode cX10_doneNots 19 = .ok (.isub, 1) := by decide +kernel
theorem dX10_doneNots_20 : decode cX10_doneNots 20 = .ok (.putfield 185, 3) := by decide +kernel
theorem dX10_doneNots_23 : decode cX10_doneNots 23 = .ok (.goto (-23), 3) := by decide +kernel
theorem dX10_doneNots_26 : decode cX10_doneNots 26 = .ok (.return_, 1) := by decide +kernel
theorem hd_yX10_doneNots : yX10_doneNots.cls = RX10 ∧ yX10_doneNots.cls ≠ "java/lang/invoke/MethodHandle" ∧ yX10_doneNots.cls ≠ "java/lang/invoke/VarHandle" ∧ (parseMethodDescriptor yX10_doneNots.desc).map (fun d => d.parameters.length) = some 0 := by decide +kernel
def uX10_doneNots : List Cond := List.cons (.code yX10_doneNots cX10_doneNots 1 none) (HAppend.hAppend ([.methodLink RX10 179 yX10_waitsFor, .instanceMethod yX10_waitsFor, .selects RX10 yX10_waitsFor yX10_waitsFor, .initialized RX10, .methodLink RX10 182 yX10_done, .instanceMethod yX10_done, .selects RX10 yX10_done yX10_done, .fieldLink RX10 185 "LuckyTicketModel" "open" "I"] : List Cond) (HAppend.hAppend uX10_waitsFor (HAppend.hAppend uX10_done wsX100)))
theorem iX10_doneNots_X10 : ∀ w ∈ wsX100, w ∈ uX10_doneNots := fun _ h => (List.mem_cons_of_mem _ (List.mem_append_right _ (List.mem_append_right _ (List.mem_append_right _ h))))
theorem guX10_doneNots : GU uX10_doneNots := gu_cons (gu_app (by decide +kernel) (gu_ap guX10_waitsFor (gu_ap guX10_done gws_X10)))
theorem gX10_doneNots__X10_waitsFor_V179 : GoodIn uX10_doneNots (wsV RX10 179 RX10 yX10_waitsFor uX10_waitsFor) := gin_V (List.mem_of_getElem? (i := 1) rfl) (List.mem_of_getElem? (i := 2) rfl) (List.mem_of_getElem? (i := 3) rfl) (List.mem_of_getElem? (i := 4) rfl) (fun _ h => (List.mem_cons_of_mem _ (List.mem_append_right _ (List.mem_append_left _ h)))) guX10_waitsFor
theorem gX10_doneNots__X10_done_V182 : GoodIn uX10_doneNots (wsV RX10 182 RX10 yX10_done uX10_done) := gin_V (List.mem_of_getElem? (i := 5) rfl) (List.mem_of_getElem? (i := 6) rfl) (List.mem_of_getElem? (i := 7) rfl) (List.mem_of_getElem? (i := 4) rfl) (fun _ h => (List.mem_cons_of_mem _ (List.mem_append_right _ (List.mem_append_right _ (List.mem_append_left _ h))))) guX10_done
set_option maxHeartbeats 4000000 in
set_option maxRecDepth 100000 in
theorem kX10_doneNots (l : Launch) (dC : Nat → ClassId) (dI : Nat → Nat → Nat) (o0 : Nat) (x_th : Int32) (mwo : Nat) (mim : Nat) (mhi : Nat) (mlu : Nat) (mtp : Nat) (x_td : Int32) (mfv : Nat) (x_sz : Int32) (x_at : Int32) (x_fr : Int32) (x_to : Int32) (x_va : Int32) (x_fk : Int32) (x_fp : Int32) (mfr : Nat) (mwt : Nat) (x_wt : Int32) (x_op : Int32) (x_jo : Int32) (mfg : Nat) (mpl : Nat) (x_dr : Int64) (mtm : Nat) (mfa : Nat) (mqu : Nat) (mmo : Nat) (mwy : Nat) (mwn : Nat) (mma : Nat) (mwi : Nat) (mnu : Nat) (mmv : Nat) (c_fr : ClassId) (c_wt : ClassId) (w_fr : Nat → Int32) (w_wt : Nat → Int32) (sz : Nat) (b_x_sz : (0 : Int) ≤ x_sz.toInt ∧ x_sz.toInt ≤ 1200) (b_x_at : (0 : Int) ≤ x_at.toInt ∧ x_at.toInt ≤ 1200) (b_x_fr : (0 : Int) ≤ x_fr.toInt ∧ x_fr.toInt ≤ 1200) (b_x_to : (0 : Int) ≤ x_to.toInt ∧ x_to.toInt ≤ 6) (b_x_fk : (0 : Int) ≤ x_fk.toInt ∧ x_fk.toInt ≤ 3) (b_x_wt : (0 : Int) ≤ x_wt.toInt ∧ x_wt.toInt ≤ 30) (b_x_op : (-30 : Int) ≤ x_op.toInt ∧ x_op.toInt ≤ 6) (b_x_jo : (0 : Int) ≤ x_jo.toInt ∧ x_jo.toInt ≤ 24) (hli : LI w_fr w_wt x_wt x_jo x_fr 1) (hwo : x_wt.toInt ≤ x_op.toInt + x_jo.toInt) : Met l yX10_doneNots uX10_doneNots ({ frames := 2, cells := 0, slots := 0, locals := 44 }) (va_Pc [.ref o0] (hw (dC, dI) vwCl [(o0, .inr (8, [.int x_th, .ref mwo, .ref mim, .ref mhi, .ref mlu, .ref mtp, .int x_td, .ref mfv, .int x_sz, .int x_at, .int x_fr, .int x_to, .int x_va, .int x_fk, .int x_fp, .ref mfr, .ref mwt, .int x_wt, .int x_op, .int x_jo, .ref mfg, .ref mpl, .long x_dr, .ref mtm, .ref mfa, .ref mqu, .ref mmo, .ref mwy, .ref mwn, .ref mma, .ref mwi, .ref mnu, .ref mmv])), (mfr, .inl (c_fr, 1875, .inl w_fr)), (mwt, .inl (c_wt, 78, .inl w_wt))] [(c_fr, .int), (c_wt, .int)] sz)) (va_Qv (fun (_ : Unit) => True) (fun (_ : Unit) t => ∃ (o0_ : Int32) (o1_ : Int32) (o2_ : Nat → Int32), ((0 : Int) ≤ o0_.toInt ∧ o0_.toInt ≤ 30) ∧ ((-30 : Int) ≤ o1_.toInt ∧ o1_.toInt ≤ 6) ∧ (LI o2_ w_wt o0_ x_jo x_fr 1) ∧ (o0_.toInt ≤ o1_.toInt + x_jo.toInt) ∧ (o0_.toInt ≤ x_wt.toInt) ∧ va_P (dC, dI) vwCl [(o0, .inr (8, [.int x_th, .ref mwo, .ref mim, .ref mhi, .ref mlu, .ref mtp, .int x_td, .ref mfv, .int x_sz, .int x_at, .int x_fr, .int x_to, .int x_va, .int x_fk, .int x_fp, .ref mfr, .ref mwt, .int o0_, .int o1_, .int x_jo, .ref mfg, .ref mpl, .long x_dr, .ref mtm, .ref mfa, .ref mqu, .ref mmo, .ref mwy, .ref mwn, .ref mma, .ref mwi, .ref mnu, .ref mmv])), (mfr, .inl (c_fr, 1875, .inl o2_)), (mwt, .inl (c_wt, 78, .inl w_wt))] t.heap ∧ va_K (dC, dI) vwCl [(c_fr, .int), (c_wt, .int)] t ∧ va_D (va_A [(o0, .inr (8, [.int x_th, .ref mwo, .ref mim, .ref mhi, .ref mlu, .ref mtp, .int x_td, .ref mfv, .int x_sz, .int x_at, .int x_fr, .int x_to, .int x_va, .int x_fk, .int x_fp, .ref mfr, .ref mwt, .int x_wt, .int x_op, .int x_jo, .ref mfg, .ref mpl, .long x_dr, .ref mtm, .ref mfa, .ref mqu, .ref mmo, .ref mwy, .ref mwn, .ref mma, .ref mwi, .ref mnu, .ref mmv])), (mfr, .inl (c_fr, 1875, .inl w_fr)), (mwt, .inl (c_wt, 78, .inl w_wt))] sz) [(o0, .inr (8, [.int x_th, .ref mwo, .ref mim, .ref mhi, .ref mlu, .ref mtp, .int x_td, .ref mfv, .int x_sz, .int x_at, .int x_fr, .int x_to, .int x_va, .int x_fk, .int x_fp, .ref mfr, .ref mwt, .int o0_, .int o1_, .int x_jo, .ref mfg, .ref mpl, .long x_dr, .ref mtm, .ref mfa, .ref mqu, .ref mmo, .ref mwy, .ref mwn, .ref mma, .ref mwi, .ref mnu, .ref mmv])), (mfr, .inl (c_fr, 1875, .inl o2_)), (mwt, .inl (c_wt, 78, .inl w_wt))]) (va_A [(o0, .inr (8, [.int x_th, .ref mwo, .ref mim, .ref mhi, .ref mlu, .ref mtp, .int x_td, .ref mfv, .int x_sz, .int x_at, .int x_fr, .int x_to, .int x_va, .int x_fk, .int x_fp, .ref mfr, .ref mwt, .int x_wt, .int x_op, .int x_jo, .ref mfg, .ref mpl, .long x_dr, .ref mtm, .ref mfa, .ref mqu, .ref mmo, .ref mwy, .ref mwn, .ref mma, .ref mwi, .ref mnu, .ref mmv])), (mfr, .inl (c_fr, 1875, .inl w_fr)), (mwt, .inl (c_wt, 78, .inl w_wt))] sz)) 0 0 (va_A [(o0, .inr (8, [.int x_th, .ref mwo, .ref mim, .ref mhi, .ref mlu, .ref mtp, .int x_td, .ref mfv, .int x_sz, .int x_at, .int x_fr, .int x_to, .int x_va, .int x_fk, .int x_fp, .ref mfr, .ref mwt, .int x_wt, .int x_op, .int x_jo, .ref mfg, .ref mpl, .long x_dr, .ref mtm, .ref mfa, .ref mqu, .ref mmo, .ref mwy, .ref mwn, .ref mma, .ref mwi, .ref mnu, .ref mmv])), (mfr, .inl (c_fr, 1875, .inl w_fr)), (mwt, .inl (c_wt, 78, .inl w_wt))] sz) := by
  refine Met.ofW (cc := cX10_doneNots) (maxL := 1) (ret := none) pn_X10 rfl ?_
  intro p e s m args below meth c s₁ B hml hv
  obtain ⟨rfl, hsz, hP, hK, hD0, hN⟩ := hv
  have hx := B.exec
  have hb := B.bytes
  have hr := B.returns
  have hts := atoms_spec (ws := uX10_doneNots) B.pre
  have hown : s.vm.findClass RX10 = some m.cls := hown_of B.named rfl
  have hlocks := B.notSynchronized
  subst hsz
  have hD := hD0.self (sz := s.heap.size)
  generalize hAe : va_A [(o0, .inr (8, [.int x_th, .ref mwo, .ref mim, .ref mhi, .ref mlu, .ref mtp, .int x_td, .ref mfv, .int x_sz, .int x_at, .int x_fr, .int x_to, .int x_va, .int x_fk, .int x_fp, .ref mfr, .ref mwt, .int x_wt, .int x_op, .int x_jo, .ref mfg, .ref mpl, .long x_dr, .ref mtm, .ref mfa, .ref mqu, .ref mmo, .ref mwy, .ref mwn, .ref mma, .ref mwi, .ref mnu, .ref mmv])), (mfr, .inl (c_fr, 1875, .inl w_fr)), (mwt, .inl (c_wt, 78, .inl w_wt))] s.heap.size = A at hD ⊢
  have hA : ∀ q : Nat, s.heap.size ≤ q → A q := fun q h => by rw [← hAe]; exact Or.inr h
  have hS : va_S A s.heap s.heap [] := va_S.rf
  have hP : va_P (dC, dI) vwCl [(o0, .inr (8, [.int x_th, .ref mwo, .ref mim, .ref mhi, .ref mlu, .ref mtp, .int x_td, .ref mfv, .int x_sz, .int x_at, .int x_fr, .int x_to, .int x_va, .int x_fk, .int x_fp, .ref mfr, .ref mwt, .int x_wt, .int x_op, .int x_jo, .ref mfg, .ref mpl, .long x_dr, .ref mtm, .ref mfa, .ref mqu, .ref mmo, .ref mwy, .ref mwn, .ref mma, .ref mwi, .ref mnu, .ref mmv])), (mfr, .inl (c_fr, 1875, .inl w_fr)), (mwt, .inl (c_wt, 78, .inl w_wt))] s.heap := hP
  have hl := lv_entry ([.ref o0]) (n := 1) (Nat.le_of_ble_eq_true rfl)
  rw [lg_entry_eq]
  generalize (lg_sl ([.ref o0]) ++ List.replicate (1 - (lg_sl ([.ref o0])).length) Slot.unset).toArray = ls at hl ⊢
  have hl : lv_has ls 1 [(0, .ref o0)] := hl
  refine loopW (σ := Int32 × Int32 × (Nat → Int32)) (fun v => v.1.toInt.toNat) (fun v H locs ls => ((0 : Int) ≤ v.1.toInt ∧ v.1.toInt ≤ 30) ∧ ((-30 : Int) ≤ v.2.1.toInt ∧ v.2.1.toInt ≤ 6) ∧ (LI v.2.2 w_wt v.1 x_jo x_fr 1) ∧ (v.1.toInt ≤ v.2.1.toInt + x_jo.toInt) ∧ (v.1.toInt ≤ x_wt.toInt) ∧ va_P (dC, dI) vwCl [(o0, .inr (8, [.int x_th, .ref mwo, .ref mim, .ref mhi, .ref mlu, .ref mtp, .int x_td, .ref mfv, .int x_sz, .int x_at, .int x_fr, .int x_to, .int x_va, .int x_fk, .int x_fp, .ref mfr, .ref mwt, .int v.1, .int v.2.1, .int x_jo, .ref mfg, .ref mpl, .long x_dr, .ref mtm, .ref mfa, .ref mqu, .ref mmo, .ref mwy, .ref mwn, .ref mma, .ref mwi, .ref mnu, .ref mmv])), (mfr, .inl (c_fr, 1875, .inl v.2.2)), (mwt, .inl (c_wt, 78, .inl w_wt))] H ∧ va_D A [(o0, .inr (8, [.int x_th, .ref mwo, .ref mim, .ref mhi, .ref mlu, .ref mtp, .int x_td, .ref mfv, .int x_sz, .int x_at, .int x_fr, .int x_to, .int x_va, .int x_fk, .int x_fp, .ref mfr, .ref mwt, .int v.1, .int v.2.1, .int x_jo, .ref mfg, .ref mpl, .long x_dr, .ref mtm, .ref mfa, .ref mqu, .ref mmo, .ref mwy, .ref mwn, .ref mma, .ref mwi, .ref mnu, .ref mmv])), (mfr, .inl (c_fr, 1875, .inl v.2.2)), (mwt, .inl (c_wt, 78, .inl w_wt))] ∧ va_S A s.heap H locs ∧ lv_has ls 1 [(0, .ref o0)]) (fun v H locs ls hI ih_0_83 => ?_) (x_wt, x_op, w_fr) ⟨(show (0 : Int) ≤ x_wt.toInt ∧ x_wt.toInt ≤ 30 from b_x_wt), (show (-30 : Int) ≤ x_op.toInt ∧ x_op.toInt ≤ 6 from b_x_op), (show LI w_fr w_wt x_wt x_jo x_fr 1 from (hli)), (show x_wt.toInt ≤ x_op.toInt + x_jo.toInt from (by omega)), (show x_wt.toInt ≤ x_wt.toInt from (by omega)), hP, hD, hS, lv_sub hl [0] rfl⟩
  obtain ⟨y_59, y_60, f_61⟩ := v
  obtain ⟨b_y_59, b_y_60, hli, hwo, hwd, hP, hD, hS, hl⟩ := hI
  have b_y_59 : (0 : Int) ≤ y_59.toInt ∧ y_59.toInt ≤ 30 := b_y_59
  have b_y_60 : (-30 : Int) ≤ y_60.toInt ∧ y_60.toInt ≤ 6 := b_y_60
  have hli : LI f_61 w_wt y_59 x_jo x_fr 1 := hli
  have hwo : y_59.toInt ≤ y_60.toInt + x_jo.toInt := hwo
  have hwd : y_59.toInt ≤ x_wt.toInt := hwd
  have hP : va_P (dC, dI) vwCl [(o0, .inr (8, [.int x_th, .ref mwo, .ref mim, .ref mhi, .ref mlu, .ref mtp, .int x_td, .ref mfv, .int x_sz, .int x_at, .int x_fr, .int x_to, .int x_va, .int x_fk, .int x_fp, .ref mfr, .ref mwt, .int y_59, .int y_60, .int x_jo, .ref mfg, .ref mpl, .long x_dr, .ref mtm, .ref mfa, .ref mqu, .ref mmo, .ref mwy, .ref mwn, .ref mma, .ref mwi, .ref mnu, .ref mmv])), (mfr, .inl (c_fr, 1875, .inl f_61)), (mwt, .inl (c_wt, 78, .inl w_wt))] H := hP
  have hD : va_D A [(o0, .inr (8, [.int x_th, .ref mwo, .ref mim, .ref mhi, .ref mlu, .ref mtp, .int x_td, .ref mfv, .int x_sz, .int x_at, .int x_fr, .int x_to, .int x_va, .int x_fk, .int x_fp, .ref mfr, .ref mwt, .int y_59, .int y_60, .int x_jo, .ref mfg, .ref mpl, .long x_dr, .ref mtm, .ref mfa, .ref mqu, .ref mmo, .ref mwy, .ref mwn, .ref mma, .ref mwi, .ref mnu, .ref mmv])), (mfr, .inl (c_fr, 1875, .inl f_61)), (mwt, .inl (c_wt, 78, .inl w_wt))] := hD
  have hl : lv_has ls 1 [(0, .ref o0)] := hl
  refine lv_aload_n hx hb dX10_doneNots_0 rfl (lv_at hl 0 rfl) ?_
  refine lv_bipush (v := 9) hx hb dX10_doneNots_1 (by decide) ?_
  refine vp_callSi (W.runV (As := [.int 9]) (rest := []) ⟨hx, hb, hml, hown, hts⟩ (kX10_waitsFor l dC dI o0 x_th mwo mim mhi mlu mtp x_td mfv x_sz x_at x_fr x_to x_va x_fk x_fp mfr mwt y_59 y_60 x_jo mfg mpl x_dr mtm mfa mqu mmo mwy mwn mma mwi mnu mmv c_wt w_wt 9 b_x_sz b_x_at b_x_fr b_x_to b_x_fk b_y_59) (cwV 1 hts gX10_doneNots__X10_waitsFor_V179 rfl rfl rfl hd_yX10_waitsFor ⟨lel 1 2 rfl, lel 21 44 rfl⟩) ⟨pw_fb, rcv_X10 hK hP (q0 := 0) rfl, (pw_use hP hK hN [0, 2] rfl [1] rfl)⟩ rfl rfl hl.1 rfl (lv_room (Nat.le_of_ble_eq_true rfl)) dX10_doneNots_3 ⟨lel 0 0 rfl, lel 0 0 rfl⟩) (fun r_84 h_r_84 => ?_)
  obtain ⟨b_r_84, nz_r_84, zz_r_84⟩ := h_r_84
  have b_r_84 : (0 : Int) ≤ r_84.toInt ∧ r_84.toInt ≤ 1 := b_r_84
  refine lv_if_eq (tgt := 26) hx hb dX10_doneNots_6 (by decide) (fun c_85 => ?_) (fun c_85 => ?_)
  ·
    have n_c_85 : (r_84.toInt : Int) = 0 := c_eq rfl (by decide) c_85
    have b_r_84 : (0 : Int) ≤ r_84.toInt ∧ r_84.toInt ≤ 0 := r_eq1 b_r_84 (by decide : (0 : Int) ≤ (0 : Int32).toInt ∧ (0 : Int32).toInt ≤ 0) n_c_85 (by decide)
    have g_86 := zz_r_84 c_85
    have lt0_g_86 := (by decide : (9 : Int32).toInt = 9)
    have hP9 := hP.sub (ws' := [(o0, .inr (8, [.int x_th, .ref mwo, .ref mim, .ref mhi, .ref mlu, .ref mtp, .int x_td, .ref mfv, .int x_sz, .int x_at, .int x_fr, .int x_to, .int x_va, .int x_fk, .int x_fp, .ref mfr, .ref mwt, .int y_59, .int y_60, .int x_jo, .ref mfg, .ref mpl, .long x_dr, .ref mtm, .ref mfa, .ref mqu, .ref mmo, .ref mwy, .ref mwn, .ref mma, .ref mwi, .ref mnu, .ref mmv])), (mfr, .inl (c_fr, 1875, .inl f_61)), (mwt, .inl (c_wt, 78, .inl w_wt))]) [0, 1, 2] rfl
    have hD9 := hD.sub (ws' := [(o0, .inr (8, [.int x_th, .ref mwo, .ref mim, .ref mhi, .ref mlu, .ref mtp, .int x_td, .ref mfv, .int x_sz, .int x_at, .int x_fr, .int x_to, .int x_va, .int x_fk, .int x_fp, .ref mfr, .ref mwt, .int y_59, .int y_60, .int x_jo, .ref mfg, .ref mpl, .long x_dr, .ref mtm, .ref mfa, .ref mqu, .ref mmo, .ref mwy, .ref mwn, .ref mma, .ref mwi, .ref mnu, .ref mmv])), (mfr, .inl (c_fr, 1875, .inl f_61)), (mwt, .inl (c_wt, 78, .inl w_wt))]) [0, 1, 2] (by decide) rfl
    have hK9 := hK.sub (tys' := [(c_fr, .int), (c_wt, .int)]) [0, 1] rfl
    exact W.vret hx hb hr (fun t ht hW => ⟨⟨(), rfl, trivial, y_59, y_60, f_61, b_y_59, b_y_60, (hli), (by omega), (by omega), by rw [ht]; exact hP9, va_K.moved hW.alike hK9, hD9⟩, hS.F ht⟩) hS.2.2 dX10_doneNots_26
  ·
    have n_c_85 : (r_84.toInt : Int) ≠ 0 := c_ne rfl (by decide) c_85
    have b_r_84 : (1 : Int) ≤ r_84.toInt ∧ r_84.toInt ≤ 1 := r_ne1 b_r_84 (by decide : (0 : Int) ≤ (0 : Int32).toInt ∧ (0 : Int32).toInt ≤ 0) n_c_85 (by decide)
    obtain ⟨b_y_59, g_87⟩ := nz_r_84 c_85
    have lt0_g_87 := (by decide : (9 : Int32).toInt = 9)
    refine lv_aload_n hx hb dX10_doneNots_9 rfl (lv_at hl 0 rfl) ?_
    have hFc := va_free (wc := [(o0, .inr (8, [.int x_th, .ref mwo, .ref mim, .ref mhi, .ref mlu, .ref mtp, .int x_td, .ref mfv, .int x_sz, .int x_at, .int x_fr, .int x_to, .int x_va, .int x_fk, .int x_fp, .ref mfr, .ref mwt, .int y_59, .int y_60, .int x_jo, .ref mfg, .ref mpl, .long x_dr, .ref mtm, .ref mfa, .ref mqu, .ref mmo, .ref mwy, .ref mwn, .ref mma, .ref mwi, .ref mnu, .ref mmv])), (mfr, .inl (c_fr, 1875, .inl f_61)), (mwt, .inl (c_wt, 78, .inl w_wt))]) hD hS hA [0, 1, 2] rfl
    refine va_callv (va_runV (As := []) (rest := []) ⟨hx, hb, hml, hown, hts⟩ (kX10_done l dC dI o0 x_th mwo mim mhi mlu mtp x_td mfv x_sz x_at x_fr x_to x_va x_fk x_fp mfr mwt y_59 y_60 x_jo mfg mpl x_dr mtm mfa mqu mmo mwy mwn mma mwi mnu mmv c_fr c_wt f_61 w_wt (H.size) b_x_sz b_x_at b_x_fr b_x_to b_x_fk b_y_59 b_y_60 b_x_jo (hli) (by omega) (by omega)) (cwV 0 hts gX10_doneNots__X10_done_V182 rfl rfl rfl hd_yX10_done ⟨lel 2 2 rfl, lel 44 44 rfl⟩) ⟨hw_fb, rcv_X10 hK hP (q0 := 0) rfl, (hw_use hP hD hK hN [0, 1, 2] rfl (by decide) rfl [0, 1] rfl)⟩ rfl rfl hl.1 rfl (lv_room (Nat.le_of_ble_eq_true rfl)) dX10_doneNots_10 ⟨lel 0 0 rfl, lel 0 0 rfl⟩) hS (fun q _ h => hFc q h) hFc (fun u_89 t H1 locs ht hvm hw_r_88 hB hz1 hk1 hS => ?_)
    obtain ⟨o0_90, o1_91, b_o0_90, hf_92, hf_93, hP1, hK1, hD1⟩ := hB
    rw [ht] at hP1
    have hK1 := va_K.moved hvm.symm hK1
    obtain ⟨hP, hD⟩ := va_join (wr := []) (w1 := [(o0, .inr (8, [.int x_th, .ref mwo, .ref mim, .ref mhi, .ref mlu, .ref mtp, .int x_td, .ref mfv, .int x_sz, .int x_at, .int x_fr, .int x_to, .int x_va, .int x_fk, .int x_fp, .ref mfr, .ref mwt, .int o0_90, .int y_60, .int x_jo, .ref mfg, .ref mpl, .long x_dr, .ref mtm, .ref mfa, .ref mqu, .ref mmo, .ref mwy, .ref mwn, .ref mma, .ref mwi, .ref mnu, .ref mmv])), (mfr, .inl (c_fr, 1875, .inl o1_91)), (mwt, .inl (c_wt, 78, .inl w_wt))]) hP hD [0, 1, 2] [] rfl rfl (by decide) (by decide) hk1 hFc hP1 hD1
    have hK := (hK.sub (tys' := []) [] rfl).app hK1
    generalize H1 = H at hP hS ⊢
    have hP : va_P (dC, dI) vwCl [(o0, .inr (8, [.int x_th, .ref mwo, .ref mim, .ref mhi, .ref mlu, .ref mtp, .int x_td, .ref mfv, .int x_sz, .int x_at, .int x_fr, .int x_to, .int x_va, .int x_fk, .int x_fp, .ref mfr, .ref mwt, .int o0_90, .int y_60, .int x_jo, .ref mfg, .ref mpl, .long x_dr, .ref mtm, .ref mfa, .ref mqu, .ref mmo, .ref mwy, .ref mwn, .ref mma, .ref mwi, .ref mnu, .ref mmv])), (mfr, .inl (c_fr, 1875, .inl o1_91)), (mwt, .inl (c_wt, 78, .inl w_wt))] H := hP
    have hD : va_D A [(o0, .inr (8, [.int x_th, .ref mwo, .ref mim, .ref mhi, .ref mlu, .ref mtp, .int x_td, .ref mfv, .int x_sz, .int x_at, .int x_fr, .int x_to, .int x_va, .int x_fk, .int x_fp, .ref mfr, .ref mwt, .int o0_90, .int y_60, .int x_jo, .ref mfg, .ref mpl, .long x_dr, .ref mtm, .ref mfa, .ref mqu, .ref mmo, .ref mwy, .ref mwn, .ref mma, .ref mwi, .ref mnu, .ref mmv])), (mfr, .inl (c_fr, 1875, .inl o1_91)), (mwt, .inl (c_wt, 78, .inl w_wt))] := hD
    have hK : va_K (dC, dI) vwCl [(c_fr, .int), (c_wt, .int)] s := hK
    refine lv_aload_n hx hb dX10_doneNots_13 rfl (lv_at hl 0 rfl) ?_
    refine lv_dup hx hb dX10_doneNots_14 rfl ?_
    refine va_get (D := (dC, dI)) (ci := 8) (v := .int y_60) (C := RX10) (T := TX10) (N := 33) hx hb hts iX10_doneNots_X10 hown hK hP 0 rfl rfl 18 (by decide) (hts (.fieldLink RX10 185 "LuckyTicketModel" "open" "I") (List.mem_of_getElem? (i := 8) rfl)) (fun _ h9 => h9) rfl dX10_doneNots_15 ?_
    refine lv_iconst (v := 1) hx hb dX10_doneNots_18 (by decide) ?_
    refine lv_isub hx hb dX10_doneNots_19 ?_
    refine lv_topi (fun z_94 e_z_94 => ?_)
    obtain ⟨q_z_94, b_z_94⟩ := ti_sub (lo := -31) (hi := 5) e_z_94 rfl (by decide : (1 : Int32).toInt = 1) b_y_60 (by decide : (1 : Int) ≤ (1 : Int32).toInt ∧ (1 : Int32).toInt ≤ 1) (by decide)
    refine va_put (D := (dC, dI)) (ci := 8) (v := .int z_94) (ty := .int) (C := RX10) (T := TX10) (N := 33) hx hb hts iX10_doneNots_X10 tyX10 tyX10_ok nmX10 hown hK hP hD hS 0 rfl rfl 18 (by decide) (hts (.fieldLink RX10 185 "LuckyTicketModel" "open" "I") (List.mem_of_getElem? (i := 8) rfl)) (fun _ h9 => h9) rfl (by decide +kernel) rfl rfl (Nat.le_of_ble_eq_true rfl) dX10_doneNots_20 (fun H locs hP hD hS => ?_)
    have hP : va_P (dC, dI) vwCl [(o0, .inr (8, [.int x_th, .ref mwo, .ref mim, .ref mhi, .ref mlu, .ref mtp, .int x_td, .ref mfv, .int x_sz, .int x_at, .int x_fr, .int x_to, .int x_va, .int x_fk, .int x_fp, .ref mfr, .ref mwt, .int o0_90, .int z_94, .int x_jo, .ref mfg, .ref mpl, .long x_dr, .ref mtm, .ref mfa, .ref mqu, .ref mmo, .ref mwy, .ref mwn, .ref mma, .ref mwi, .ref mnu, .ref mmv])), (mfr, .inl (c_fr, 1875, .inl o1_91)), (mwt, .inl (c_wt, 78, .inl w_wt))] H := hP
    have hD : va_D A [(o0, .inr (8, [.int x_th, .ref mwo, .ref mim, .ref mhi, .ref mlu, .ref mtp, .int x_td, .ref mfv, .int x_sz, .int x_at, .int x_fr, .int x_to, .int x_va, .int x_fk, .int x_fp, .ref mfr, .ref mwt, .int o0_90, .int z_94, .int x_jo, .ref mfg, .ref mpl, .long x_dr, .ref mtm, .ref mfa, .ref mqu, .ref mmo, .ref mwy, .ref mwn, .ref mma, .ref mwi, .ref mnu, .ref mmv])), (mfr, .inl (c_fr, 1875, .inl o1_91)), (mwt, .inl (c_wt, 78, .inl w_wt))] := hD
    refine lv_goto (tgt := 0) hx hb dX10_doneNots_23 (by decide) ?_
    exact ih_0_83 (o0_90, z_94, o1_91) _ _ _ ⟨(show (0 : Int) ≤ o0_90.toInt ∧ o0_90.toInt ≤ 30 from (rg_w b_o0_90 (by decide) (by decide))), (show (-30 : Int) ≤ z_94.toInt ∧ z_94.toInt ≤ 6 from ⟨by omega, by omega⟩), (show LI o1_91 w_wt o0_90 x_jo x_fr 1 from (hf_92)), (show o0_90.toInt ≤ z_94.toInt + x_jo.toInt from (by omega)), (show o0_90.toInt ≤ x_wt.toInt from (by omega)), hP, hD, hS, lv_sub hl [0] rfl⟩ (show o0_90.toInt.toNat < y_59.toInt.toNat by omega)
theorem dX10_doneJoins_0 : decode cX10_doneJoins 0 = .ok (.aload_n 0, 1) := by decide +kernel
theorem dX10_doneJoins_1 : decode cX10_doneJoins 1 = .ok (.bipush 10, 2) := by decide +kernel
theorem dX10_doneJoins_3 : decode cX10_doneJoins 3 = .ok (.invokevirtual 179, 3) := by decide +kernel
theorem dX10_doneJoins_6 : decode cX10_doneJoins 6 = .ok (.ifCond .ne 12, 3) := by decide +kernel
theorem dX10_doneJoins_9 : decode cX10_doneJoins 9 = .ok (.aload_n 0, 1) := by decide +kernel
theorem dX10_doneJoins_10 : decode cX10_doneJoins 10 = .ok (.bipush 11, 2) := by decide +kernel
theorem dX10_doneJoins_12 : decode cX10_doneJoins 12 = .ok (.invokevirtual 179, 3) := by decide +kernel
theorem dX10_doneJoins_15 : decode cX10_doneJoins 15 = .ok (.ifCond .eq 10, 3) := by decide +kernel
theorem dX10_doneJoins_18 : decode cX10_doneJoins 18 = .ok (.aload_n 0, 1) := by decide +kernel
theorem dX10_doneJoins_19 : decode cX10_doneJoins 19 = .ok (.invokevirtual 182, 3) := by decide +kernel
theorem dX10_doneJoins_22 : decode cX10_doneJoins 22 = .ok (.goto (-22), 3) := by decide +kernel
theorem dX10_doneJoins_25 : decode cX10_doneJoins 25 = .ok (.return_, 1) := by decide +kernel
theorem hd_yX10_doneJoins : yX10_doneJoins.cls = RX10 ∧ yX10_doneJoins.cls ≠ "java/lang/invoke/MethodHandle" ∧ yX10_doneJoins.cls ≠ "java/lang/invoke/VarHandle" ∧ (parseMethodDescriptor yX10_doneJoins.desc).map (fun d => d.parameters.length) = some 0 := by decide +kernel
def uX10_doneJoins : List Cond := List.cons (.code yX10_doneJoins cX10_doneJoins 1 none) (HAppend.hAppend ([.methodLink RX10 179 yX10_waitsFor, .instanceMethod yX10_waitsFor, .selects RX10 yX10_waitsFor yX10_waitsFor, .initialized RX10, .methodLink RX10 182 yX10_done, .instanceMethod yX10_done, .selects RX10 yX10_done yX10_done] : List Cond) (HAppend.hAppend uX10_waitsFor uX10_done))
theorem guX10_doneJoins : GU uX10_doneJoins := gu_cons (gu_app (by decide +kernel) (gu_ap guX10_waitsFor guX10_done))
theorem gX10_doneJoins__X10_waitsFor_V179 : GoodIn uX10_doneJoins (wsV RX10 179 RX10 yX10_waitsFor uX10_waitsFor) := gin_V (List.mem_of_getElem? (i := 1) rfl) (List.mem_of_getElem? (i := 2) rfl) (List.mem_of_getElem? (i := 3) rfl) (List.mem_of_getElem? (i := 4) rfl) (fun _ h => (List.mem_cons_of_mem _ (List.mem_append_right _ (List.mem_append_left _ h)))) guX10_waitsFor
theorem gX10_doneJoins__X10_done_V182 : GoodIn uX10_doneJoins (wsV RX10 182 RX10 yX10_done uX10_done) := gin_V (List.mem_of_getElem? (i := 5) rfl) (List.mem_of_getElem? (i := 6) rfl) (List.mem_of_getElem? (i := 7) rfl) (List.mem_of_getElem? (i := 4) rfl) (fun _ h => (List.mem_cons_of_mem _ (List.mem_append_right _ (List.mem_append_right _ h)))) guX10_done
set_option maxHeartbeats 4000000 in
set_option maxRecDepth 100000 in
theorem kX10_doneJoins (l : Launch) (dC : Nat → ClassId) (dI : Nat → Nat → Nat) (o0 : Nat) (x_th : Int32) (mwo : Nat) (mim : Nat) (mhi : Nat) (mlu : Nat) (mtp : Nat) (x_td : Int32) (mfv : Nat) (x_sz : Int32) (x_at : Int32) (x_fr : Int32) (x_to : Int32) (x_va : Int32) (x_fk : Int32) (x_fp : Int32) (mfr : Nat) (mwt : Nat) (x_wt : Int32) (x_op : Int32) (x_jo : Int32) (mfg : Nat) (mpl : Nat) (x_dr : Int64) (mtm : Nat) (mfa : Nat) (mqu : Nat) (mmo : Nat) (mwy : Nat) (mwn : Nat) (mma : Nat) (mwi : Nat) (mnu : Nat) (mmv : Nat) (c_fr : ClassId) (c_wt : ClassId) (w_fr : Nat → Int32) (w_wt : Nat → Int32) (sz : Nat) (b_x_sz : (0 : Int) ≤ x_sz.toInt ∧ x_sz.toInt ≤ 1200) (b_x_at : (0 : Int) ≤ x_at.toInt ∧ x_at.toInt ≤ 1200) (b_x_fr : (0 : Int) ≤ x_fr.toInt ∧ x_fr.toInt ≤ 1200) (b_x_to : (0 : Int) ≤ x_to.toInt ∧ x_to.toInt ≤ 6) (b_x_fk : (0 : Int) ≤ x_fk.toInt ∧ x_fk.toInt ≤ 3) (b_x_wt : (0 : Int) ≤ x_wt.toInt ∧ x_wt.toInt ≤ 30) (b_x_op : (-30 : Int) ≤ x_op.toInt ∧ x_op.toInt ≤ 6) (b_x_jo : (0 : Int) ≤ x_jo.toInt ∧ x_jo.toInt ≤ 24) (hli : LI w_fr w_wt x_wt x_jo x_fr 1) (hwo : x_wt.toInt ≤ x_op.toInt + x_jo.toInt) : Met l yX10_doneJoins uX10_doneJoins ({ frames := 2, cells := 0, slots := 0, locals := 44 }) (va_Pc [.ref o0] (hw (dC, dI) vwCl [(o0, .inr (8, [.int x_th, .ref mwo, .ref mim, .ref mhi, .ref mlu, .ref mtp, .int x_td, .ref mfv, .int x_sz, .int x_at, .int x_fr, .int x_to, .int x_va, .int x_fk, .int x_fp, .ref mfr, .ref mwt, .int x_wt, .int x_op, .int x_jo, .ref mfg, .ref mpl, .long x_dr, .ref mtm, .ref mfa, .ref mqu, .ref mmo, .ref mwy, .ref mwn, .ref mma, .ref mwi, .ref mnu, .ref mmv])), (mfr, .inl (c_fr, 1875, .inl w_fr)), (mwt, .inl (c_wt, 78, .inl w_wt))] [(c_fr, .int), (c_wt, .int)] sz)) (va_Qv (fun (_ : Unit) => True) (fun (_ : Unit) t => ∃ (o0_ : Int32) (o1_ : Nat → Int32), ((0 : Int) ≤ o0_.toInt ∧ o0_.toInt ≤ 30) ∧ (LI o1_ w_wt o0_ x_jo x_fr 1) ∧ (o0_.toInt ≤ x_op.toInt + x_jo.toInt) ∧ (o0_.toInt ≤ x_wt.toInt) ∧ (OPN w_wt x_wt → OPN w_wt o0_) ∧ (¬ (1 ≤ o0_.toInt ∧ ((w_wt (o0_.toInt - 1).toNat).toInt = 10 ∨ (w_wt (o0_.toInt - 1).toNat).toInt = 11))) ∧ va_P (dC, dI) vwCl [(o0, .inr (8, [.int x_th, .ref mwo, .ref mim, .ref mhi, .ref mlu, .ref mtp, .int x_td, .ref mfv, .int x_sz, .int x_at, .int x_fr, .int x_to, .int x_va, .int x_fk, .int x_fp, .ref mfr, .ref mwt, .int o0_, .int x_op, .int x_jo, .ref mfg, .ref mpl, .long x_dr, .ref mtm, .ref mfa, .ref mqu, .ref mmo, .ref mwy, .ref mwn, .ref mma, .ref mwi, .ref mnu, .ref mmv])), (mfr, .inl (c_fr, 1875, .inl o1_)), (mwt, .inl (c_wt, 78, .inl w_wt))] t.heap ∧ va_K (dC, dI) vwCl [(c_fr, .int), (c_wt, .int)] t ∧ va_D (va_A [(o0, .inr (8, [.int x_th, .ref mwo, .ref mim, .ref mhi, .ref mlu, .ref mtp, .int x_td, .ref mfv, .int x_sz, .int x_at, .int x_fr, .int x_to, .int x_va, .int x_fk, .int x_fp, .ref mfr, .ref mwt, .int x_wt, .int x_op, .int x_jo, .ref mfg, .ref mpl, .long x_dr, .ref mtm, .ref mfa, .ref mqu, .ref mmo, .ref mwy, .ref mwn, .ref mma, .ref mwi, .ref mnu, .ref mmv])), (mfr, .inl (c_fr, 1875, .inl w_fr)), (mwt, .inl (c_wt, 78, .inl w_wt))] sz) [(o0, .inr (8, [.int x_th, .ref mwo, .ref mim, .ref mhi, .ref mlu, .ref mtp, .int x_td, .ref mfv, .int x_sz, .int x_at, .int x_fr, .int x_to, .int x_va, .int x_fk, .int x_fp, .ref mfr, .ref mwt, .int o0_, .int x_op, .int x_jo, .ref mfg, .ref mpl, .long x_dr, .ref mtm, .ref mfa, .ref mqu, .ref mmo, .ref mwy, .ref mwn, .ref mma, .ref mwi, .ref mnu, .ref mmv])), (mfr, .inl (c_fr, 1875, .inl o1_)), (mwt, .inl (c_wt, 78, .inl w_wt))]) (va_A [(o0, .inr (8, [.int x_th, .ref mwo, .ref mim, .ref mhi, .ref mlu, .ref mtp, .int x_td, .ref mfv, .int x_sz, .int x_at, .int x_fr, .int x_to, .int x_va, .int x_fk, .int x_fp, .ref mfr, .ref mwt, .int x_wt, .int x_op, .int x_jo, .ref mfg, .ref mpl, .long x_dr, .ref mtm, .ref mfa, .ref mqu, .ref mmo, .ref mwy, .ref mwn, .ref mma, .ref mwi, .ref mnu, .ref mmv])), (mfr, .inl (c_fr, 1875, .inl w_fr)), (mwt, .inl (c_wt, 78, .inl w_wt))] sz)) 0 0 (va_A [(o0, .inr (8, [.int x_th, .ref mwo, .ref mim, .ref mhi, .ref mlu, .ref mtp, .int x_td, .ref mfv, .int x_sz, .int x_at, .int x_fr, .int x_to, .int x_va, .int x_fk, .int x_fp, .ref mfr, .ref mwt, .int x_wt, .int x_op, .int x_jo, .ref mfg, .ref mpl, .long x_dr, .ref mtm, .ref mfa, .ref mqu, .ref mmo, .ref mwy, .ref mwn, .ref mma, .ref mwi, .ref mnu, .ref mmv])), (mfr, .inl (c_fr, 1875, .inl w_fr)), (mwt, .inl (c_wt, 78, .inl w_wt))] sz) := by
  refine Met.ofW (cc := cX10_doneJoins) (maxL := 1) (ret := none) pn_X10 rfl ?_
  intro p e s m args below meth c s₁ B hml hv
  obtain ⟨rfl, hsz, hP, hK, hD0, hN⟩ := hv
  have hx := B.exec
  have hb := B.bytes
  have hr := B.returns
  have hts := atoms_spec (ws := uX10_doneJoins) B.pre
  have hown : s.vm.findClass RX10 = some m.cls := hown_of B.named rfl
  have hlocks := B.notSynchronized
  subst hsz
  have hD := hD0.self (sz := s.heap.size)
  generalize hAe : va_A [(o0, .inr (8, [.int x_th, .ref mwo, .ref mim, .ref mhi, .ref mlu, .ref mtp, .int x_td, .ref mfv, .int x_sz, .int x_at, .int x_fr, .int x_to, .int x_va, .int x_fk, .int x_fp, .ref mfr, .ref mwt, .int x_wt, .int x_op, .int x_jo, .ref mfg, .ref mpl, .long x_dr, .ref mtm, .ref mfa, .ref mqu, .ref mmo, .ref mwy, .ref mwn, .ref mma, .ref mwi, .ref mnu, .ref mmv])), (mfr, .inl (c_fr, 1875, .inl w_fr)), (mwt, .inl (c_wt, 78, .inl w_wt))] s.heap.size = A at hD ⊢
  have hA : ∀ q : Nat, s.heap.size ≤ q → A q := fun q h => by rw [← hAe]; exact Or.inr h
  have hS : va_S A s.heap s.heap [] := va_S.rf
  have hP : va_P (dC, dI) vwCl [(o0, .inr (8, [.int x_th, .ref mwo, .ref mim, .ref mhi, .ref mlu, .ref mtp, .int x_td, .ref mfv, .int x_sz, .int x_at, .int x_fr, .int x_to, .int x_va, .int x_fk, .int x_fp, .ref mfr, .ref mwt, .int x_wt, .int x_op, .int x_jo, .ref mfg, .ref mpl, .long x_dr, .ref mtm, .ref mfa, .ref mqu, .ref mmo, .ref mwy, .ref mwn, .ref mma, .ref mwi, .ref mnu, .ref mmv])), (mfr, .inl (c_fr, 1875, .inl w_fr)), (mwt, .inl (c_wt, 78, .inl w_wt))] s.heap := hP
  have hl := lv_entry ([.ref o0]) (n := 1) (Nat.le_of_ble_eq_true rfl)
  rw [lg_entry_eq]
  generalize (lg_sl ([.ref o0]) ++ List.replicate (1 - (lg_sl ([.ref o0])).length) Slot.unset).toArray = ls at hl ⊢
  have hl : lv_has ls 1 [(0, .ref o0)] := hl
  refine loopW (σ := Int32 × (Nat → Int32)) (fun v => v.1.toInt.toNat) (fun v H locs ls => ((0 : Int) ≤ v.1.toInt ∧ v.1.toInt ≤ 30) ∧ (LI v.2 w_wt v.1 x_jo x_fr 1) ∧ (v.1.toInt ≤ x_op.toInt + x_jo.toInt) ∧ (v.1.toInt ≤ x_wt.toInt) ∧ (OPN w_wt x_wt → OPN w_wt v.1) ∧ va_P (dC, dI) vwCl [(o0, .inr (8, [.int x_th, .ref mwo, .ref mim, .ref mhi, .ref mlu, .ref mtp, .int x_td, .ref mfv, .int x_sz, .int x_at, .int x_fr, .int x_to, .int x_va, .int x_fk, .int x_fp, .ref mfr, .ref mwt, .int v.1, .int x_op, .int x_jo, .ref mfg, .ref mpl, .long x_dr, .ref mtm, .ref mfa, .ref mqu, .ref mmo, .ref mwy, .ref mwn, .ref mma, .ref mwi, .ref mnu, .ref mmv])), (mfr, .inl (c_fr, 1875, .inl v.2)), (mwt, .inl (c_wt, 78, .inl w_wt))] H ∧ va_D A [(o0, .inr (8, [.int x_th, .ref mwo, .ref mim, .ref mhi, .ref mlu, .ref mtp, .int x_td, .ref mfv, .int x_sz, .int x_at, .int x_fr, .int x_to, .int x_va, .int x_fk, .int x_fp, .ref mfr, .ref mwt, .int v.1, .int x_op, .int x_jo, .ref mfg, .ref mpl, .long x_dr, .ref mtm, .ref mfa, .ref mqu, .ref mmo, .ref mwy, .ref mwn, .ref mma, .ref mwi, .ref mnu, .ref mmv])), (mfr, .inl (c_fr, 1875, .inl v.2)), (mwt, .inl (c_wt, 78, .inl w_wt))] ∧ va_S A s.heap H locs ∧ lv_has ls 1 [(0, .ref o0)]) (fun v H locs ls hI ih_0_144 => ?_) (x_wt, w_fr) ⟨(show (0 : Int) ≤ x_wt.toInt ∧ x_wt.toInt ≤ 30 from b_x_wt), (show LI w_fr w_wt x_wt x_jo x_fr 1 from (hli)), (show x_wt.toInt ≤ x_op.toInt + x_jo.toInt from (by omega)), (show x_wt.toInt ≤ x_wt.toInt from (by omega)), (show OPN w_wt x_wt → OPN w_wt x_wt from (fun h9 => h9)), hP, hD, hS, lv_sub hl [0] rfl⟩
  obtain ⟨y_115, f_116⟩ := v
  obtain ⟨b_y_115, hli, hwo, hwd, hop, hP, hD, hS, hl⟩ := hI
  have b_y_115 : (0 : Int) ≤ y_115.toInt ∧ y_115.toInt ≤ 30 := b_y_115
  have hli : LI f_116 w_wt y_115 x_jo x_fr 1 := hli
  have hwo : y_115.toInt ≤ x_op.toInt + x_jo.toInt := hwo
  have hwd : y_115.toInt ≤ x_wt.toInt := hwd
  have hop : OPN w_wt x_wt → OPN w_wt y_115 := hop
  have hP : va_P (dC, dI) vwCl [(o0, .inr (8, [.int x_th, .ref mwo, .ref mim, .ref mhi, .ref mlu, .ref mtp, .int x_td, .ref mfv, .int x_sz, .int x_at, .int x_fr, .int x_to, .int x_va, .int x_fk, .int x_fp, .ref mfr, .ref mwt, .int y_115, .int x_op, .int x_jo, .ref mfg, .ref mpl, .long x_dr, .ref mtm, .ref mfa, .ref mqu, .ref mmo, .ref mwy, .ref mwn, .ref mma, .ref mwi, .ref mnu, .ref mmv])), (mfr, .inl (c_fr, 1875, .inl f_116)), (mwt, .inl (c_wt, 78, .inl w_wt))] H := hP
  have hD : va_D A [(o0, .inr (8, [.int x_th, .ref mwo, .ref mim, .ref mhi, .ref mlu, .ref mtp, .int x_td, .ref mfv, .int x_sz, .int x_at, .int x_fr, .int x_to, .int x_va, .int x_fk, .int x_fp, .ref mfr, .ref mwt, .int y_115, .int x_op, .int x_jo, .ref mfg, .ref mpl, .long x_dr, .ref mtm, .ref mfa, .ref mqu, .ref mmo, .ref mwy, .ref mwn, .ref mma, .ref mwi, .ref mnu, .ref mmv])), (mfr, .inl (c_fr, 1875, .inl f_116)), (mwt, .inl (c_wt, 78, .inl w_wt))] := hD
  have hl : lv_has ls 1 [(0, .ref o0)] := hl
  refine lv_aload_n hx hb dX10_doneJoins_0 rfl (lv_at hl 0 rfl) ?_
  refine lv_bipush (v := 10) hx hb dX10_doneJoins_1 (by decide) ?_
  refine vp_callSi (W.runV (As := [.int 10]) (rest := []) ⟨hx, hb, hml, hown, hts⟩ (kX10_waitsFor l dC dI o0 x_th mwo mim mhi mlu mtp x_td mfv x_sz x_at x_fr x_to x_va x_fk x_fp mfr mwt y_115 x_op x_jo mfg mpl x_dr mtm mfa mqu mmo mwy mwn mma mwi mnu mmv c_wt w_wt 10 b_x_sz b_x_at b_x_fr b_x_to b_x_fk b_y_115) (cwV 1 hts gX10_doneJoins__X10_waitsFor_V179 rfl rfl rfl hd_yX10_waitsFor ⟨lel 1 2 rfl, lel 21 44 rfl⟩) ⟨pw_fb, rcv_X10 hK hP (q0 := 0) rfl, (pw_use hP hK hN [0, 2] rfl [1] rfl)⟩ rfl rfl hl.1 rfl (lv_room (Nat.le_of_ble_eq_true rfl)) dX10_doneJoins_3 ⟨lel 0 0 rfl, lel 0 0 rfl⟩) (fun r_145 h_r_145 => ?_)
  obtain ⟨b_r_145, nz_r_145, zz_r_145⟩ := h_r_145
  have b_r_145 : (0 : Int) ≤ r_145.toInt ∧ r_145.toInt ≤ 1 := b_r_145
  refine lv_if_ne (tgt := 18) hx hb dX10_doneJoins_6 (by decide) (fun c_146 => ?_) (fun c_146 => ?_)
  ·
    have n_c_146 : (r_145.toInt : Int) ≠ 0 := c_ne rfl (by decide) c_146
    have b_r_145 : (1 : Int) ≤ r_145.toInt ∧ r_145.toInt ≤ 1 := r_ne1 b_r_145 (by decide : (0 : Int) ≤ (0 : Int32).toInt ∧ (0 : Int32).toInt ≤ 0) n_c_146 (by decide)
    obtain ⟨b_y_115, g_155⟩ := nz_r_145 c_146
    have lt0_g_155 := (by decide : (10 : Int32).toInt = 10)
    refine lv_aload_n hx hb dX10_doneJoins_18 rfl (lv_at hl 0 rfl) ?_
    have hFc := va_free (wc := [(o0, .inr (8, [.int x_th, .ref mwo, .ref mim, .ref mhi, .ref mlu, .ref mtp, .int x_td, .ref mfv, .int x_sz, .int x_at, .int x_fr, .int x_to, .int x_va, .int x_fk, .int x_fp, .ref mfr, .ref mwt, .int y_115, .int x_op, .int x_jo, .ref mfg, .ref mpl, .long x_dr, .ref mtm, .ref mfa, .ref mqu, .ref mmo, .ref mwy, .ref mwn, .ref mma, .ref mwi, .ref mnu, .ref mmv])), (mfr, .inl (c_fr, 1875, .inl f_116)), (mwt, .inl (c_wt, 78, .inl w_wt))]) hD hS hA [0, 1, 2] rfl
    refine va_callv (va_runV (As := []) (rest := []) ⟨hx, hb, hml, hown, hts⟩ (kX10_done l dC dI o0 x_th mwo mim mhi mlu mtp x_td mfv x_sz x_at x_fr x_to x_va x_fk x_fp mfr mwt y_115 x_op x_jo mfg mpl x_dr mtm mfa mqu mmo mwy mwn mma mwi mnu mmv c_fr c_wt f_116 w_wt (H.size) b_x_sz b_x_at b_x_fr b_x_to b_x_fk b_y_115 b_x_op b_x_jo (hli) (by omega) (by omega)) (cwV 0 hts gX10_doneJoins__X10_done_V182 rfl rfl rfl hd_yX10_done ⟨lel 2 2 rfl, lel 44 44 rfl⟩) ⟨hw_fb, rcv_X10 hK hP (q0 := 0) rfl, (hw_use hP hD hK hN [0, 1, 2] rfl (by decide) rfl [0, 1] rfl)⟩ rfl rfl hl.1 rfl (lv_room (Nat.le_of_ble_eq_true rfl)) dX10_doneJoins_19 ⟨lel 0 0 rfl, lel 0 0 rfl⟩) hS (fun q _ h => hFc q h) hFc (fun u_157 t H1 locs ht hvm hw_r_156 hB hz1 hk1 hS => ?_)
    obtain ⟨o0_158, o1_159, b_o0_158, hf_160, hf_161, hP1, hK1, hD1⟩ := hB
    rw [ht] at hP1
    have hK1 := va_K.moved hvm.symm hK1
    obtain ⟨hP, hD⟩ := va_join (wr := []) (w1 := [(o0, .inr (8, [.int x_th, .ref mwo, .ref mim, .ref mhi, .ref mlu, .ref mtp, .int x_td, .ref mfv, .int x_sz, .int x_at, .int x_fr, .int x_to, .int x_va, .int x_fk, .int x_fp, .ref mfr, .ref mwt, .int o0_158, .int x_op, .int x_jo, .ref mfg, .ref mpl, .long x_dr, .ref mtm, .ref mfa, .ref mqu, .ref mmo, .ref mwy, .ref mwn, .ref mma, .ref mwi, .ref mnu, .ref mmv])), (mfr, .inl (c_fr, 1875, .inl o1_159)), (mwt, .inl (c_wt, 78, .inl w_wt))]) hP hD [0, 1, 2] [] rfl rfl (by decide) (by decide) hk1 hFc hP1 hD1
    have hK := (hK.sub (tys' := []) [] rfl).app hK1
    generalize H1 = H at hP hS ⊢
    have hP : va_P (dC, dI) vwCl [(o0, .inr (8, [.int x_th, .ref mwo, .ref mim, .ref mhi, .ref mlu, .ref mtp, .int x_td, .ref mfv, .int x_sz, .int x_at, .int x_fr, .int x_to, .int x_va, .int x_fk, .int x_fp, .ref mfr, .ref mwt, .int o0_158, .int x_op, .int x_jo, .ref mfg, .ref mpl, .long x_dr, .ref mtm, .ref mfa, .ref mqu, .ref mmo, .ref mwy, .ref mwn, .ref mma, .ref mwi, .ref mnu, .ref mmv])), (mfr, .inl (c_fr, 1875, .inl o1_159)), (mwt, .inl (c_wt, 78, .inl w_wt))] H := hP
    have hD : va_D A [(o0, .inr (8, [.int x_th, .ref mwo, .ref mim, .ref mhi, .ref mlu, .ref mtp, .int x_td, .ref mfv, .int x_sz, .int x_at, .int x_fr, .int x_to, .int x_va, .int x_fk, .int x_fp, .ref mfr, .ref mwt, .int o0_158, .int x_op, .int x_jo, .ref mfg, .ref mpl, .long x_dr, .ref mtm, .ref mfa, .ref mqu, .ref mmo, .ref mwy, .ref mwn, .ref mma, .ref mwi, .ref mnu, .ref mmv])), (mfr, .inl (c_fr, 1875, .inl o1_159)), (mwt, .inl (c_wt, 78, .inl w_wt))] := hD
    have hK : va_K (dC, dI) vwCl [(c_fr, .int), (c_wt, .int)] s := hK
    refine lv_goto (tgt := 0) hx hb dX10_doneJoins_22 (by decide) ?_
    exact ih_0_144 (o0_158, o1_159) _ _ _ ⟨(show (0 : Int) ≤ o0_158.toInt ∧ o0_158.toInt ≤ 30 from (rg_w b_o0_158 (by decide) (by decide))), (show LI o1_159 w_wt o0_158 x_jo x_fr 1 from (hf_160)), (show o0_158.toInt ≤ x_op.toInt + x_jo.toInt from (by omega)), (show o0_158.toInt ≤ x_wt.toInt from (by omega)), (show OPN w_wt x_wt → OPN w_wt o0_158 from (fun h9 => (hop h9).done hf_161 (by rw [show o0_158.toInt.toNat = (y_115.toInt - 1).toNat from by omega]; omega))), hP, hD, hS, lv_sub hl [0] rfl⟩ (show o0_158.toInt.toNat < y_115.toInt.toNat by omega)
  ·
    have n_c_146 : (r_145.toInt : Int) = 0 := c_eq rfl (by decide) c_146
    have b_r_145 : (0 : Int) ≤ r_145.toInt ∧ r_145.toInt ≤ 0 := r_eq1 b_r_145 (by decide : (0 : Int) ≤ (0 : Int32).toInt ∧ (0 : Int32).toInt ≤ 0) n_c_146 (by decide)
    have g_162 := zz_r_145 c_146
    have lt0_g_162 := (by decide : (10 : Int32).toInt = 10)
    refine lv_aload_n hx hb dX10_doneJoins_9 rfl (lv_at hl 0 rfl) ?_
    refine lv_bipush (v := 11) hx hb dX10_doneJoins_10 (by decide) ?_
    refine vp_callSi (W.runV (As := [.int 11]) (rest := []) ⟨hx, hb, hml, hown, hts⟩ (kX10_waitsFor l dC dI o0 x_th mwo mim mhi mlu mtp x_td mfv x_sz x_at x_fr x_to x_va x_fk x_fp mfr mwt y_115 x_op x_jo mfg mpl x_dr mtm mfa mqu mmo mwy mwn mma mwi mnu mmv c_wt w_wt 11 b_x_sz b_x_at b_x_fr b_x_to b_x_fk b_y_115) (cwV 1 hts gX10_doneJoins__X10_waitsFor_V179 rfl rfl rfl hd_yX10_waitsFor ⟨lel 1 2 rfl, lel 21 44 rfl⟩) ⟨pw_fb, rcv_X10 hK hP (q0 := 0) rfl, (pw_use hP hK hN [0, 2] rfl [1] rfl)⟩ rfl rfl hl.1 rfl (lv_room (Nat.le_of_ble_eq_true rfl)) dX10_doneJoins_12 ⟨lel 0 0 rfl, lel 0 0 rfl⟩) (fun r_163 h_r_163 => ?_)
    obtain ⟨b_r_163, nz_r_163, zz_r_163⟩ := h_r_163
    have b_r_163 : (0 : Int) ≤ r_163.toInt ∧ r_163.toInt ≤ 1 := b_r_163
    refine lv_if_eq (tgt := 25) hx hb dX10_doneJoins_15 (by decide) (fun c_164 => ?_) (fun c_164 => ?_)
    ·
      have n_c_164 : (r_163.toInt : Int) = 0 := c_eq rfl (by decide) c_164
      have b_r_163 : (0 : Int) ≤ r_163.toInt ∧ r_163.toInt ≤ 0 := r_eq1 b_r_163 (by decide : (0 : Int) ≤ (0 : Int32).toInt ∧ (0 : Int32).toInt ≤ 0) n_c_164 (by decide)
      have g_165 := zz_r_163 c_164
      have lt0_g_165 := (by decide : (11 : Int32).toInt = 11)
      have hP9 := hP.sub (ws' := [(o0, .inr (8, [.int x_th, .ref mwo, .ref mim, .ref mhi, .ref mlu, .ref mtp, .int x_td, .ref mfv, .int x_sz, .int x_at, .int x_fr, .int x_to, .int x_va, .int x_fk, .int x_fp, .ref mfr, .ref mwt, .int y_115, .int x_op, .int x_jo, .ref mfg, .ref mpl, .long x_dr, .ref mtm, .ref mfa, .ref mqu, .ref mmo, .ref mwy, .ref mwn, .ref mma, .ref mwi, .ref mnu, .ref mmv])), (mfr, .inl (c_fr, 1875, .inl f_116)), (mwt, .inl (c_wt, 78, .inl w_wt))]) [0, 1, 2] rfl
      have hD9 := hD.sub (ws' := [(o0, .inr (8, [.int x_th, .ref mwo, .ref mim, .ref mhi, .ref mlu, .ref mtp, .int x_td, .ref mfv, .int x_sz, .int x_at, .int x_fr, .int x_to, .int x_va, .int x_fk, .int x_fp, .ref mfr, .ref mwt, .int y_115, .int x_op, .int x_jo, .ref mfg, .ref mpl, .long x_dr, .ref mtm, .ref mfa, .ref mqu, .ref mmo, .ref mwy, .ref mwn, .ref mma, .ref mwi, .ref mnu, .ref mmv])), (mfr, .inl (c_fr, 1875, .inl f_116)), (mwt, .inl (c_wt, 78, .inl w_wt))]) [0, 1, 2] (by decide) rfl
      have hK9 := hK.sub (tys' := [(c_fr, .int), (c_wt, .int)]) [0, 1] rfl
      exact W.vret hx hb hr (fun t ht hW => ⟨⟨(), rfl, trivial, y_115, f_116, b_y_115, (hli), (by omega), (by omega), (hop), (by omega), by rw [ht]; exact hP9, va_K.moved hW.alike hK9, hD9⟩, hS.F ht⟩) hS.2.2 dX10_doneJoins_25
    ·
      have n_c_164 : (r_163.toInt : Int) ≠ 0 := c_ne rfl (by decide) c_164
      have b_r_163 : (1 : Int) ≤ r_163.toInt ∧ r_163.toInt ≤ 1 := r_ne1 b_r_163 (by decide : (0 : Int) ≤ (0 : Int32).toInt ∧ (0 : Int32).toInt ≤ 0) n_c_164 (by decide)
      obtain ⟨b_y_115, g_166⟩ := nz_r_163 c_164
      have lt0_g_166 := (by decide : (11 : Int32).toInt = 11)
      refine lv_aload_n hx hb dX10_doneJoins_18 rfl (lv_at hl 0 rfl) ?_
      have hFc := va_free (wc := [(o0, .inr (8, [.int x_th, .ref mwo, .ref mim, .ref mhi, .ref mlu, .ref mtp, .int x_td, .ref mfv, .int x_sz, .int x_at, .int x_fr, .int x_to, .int x_va, .int x_fk, .int x_fp, .ref mfr, .ref mwt, .int y_115, .int x_op, .int x_jo, .ref mfg, .ref mpl, .long x_dr, .ref mtm, .ref mfa, .ref mqu, .ref mmo, .ref mwy, .ref mwn, .ref mma, .ref mwi, .ref mnu, .ref mmv])), (mfr, .inl (c_fr, 1875, .inl f_116)), (mwt, .inl (c_wt, 78, .inl w_wt))]) hD hS hA [0, 1, 2] rfl
      refine va_callv (va_runV (As := []) (rest := []) ⟨hx, hb, hml, hown, hts⟩ (kX10_done l dC dI o0 x_th mwo mim mhi mlu mtp x_td mfv x_sz x_at x_fr x_to x_va x_fk x_fp mfr mwt y_115 x_op x_jo mfg mpl x_dr mtm mfa mqu mmo mwy mwn mma mwi mnu mmv c_fr c_wt f_116 w_wt (H.size) b_x_sz b_x_at b_x_fr b_x_to b_x_fk b_y_115 b_x_op b_x_jo (hli) (by omega) (by omega)) (cwV 0 hts gX10_doneJoins__X10_done_V182 rfl rfl rfl hd_yX10_done ⟨lel 2 2 rfl, lel 44 44 rfl⟩) ⟨hw_fb, rcv_X10 hK hP (q0 := 0) rfl, (hw_use hP hD hK hN [0, 1, 2] rfl (by decide) rfl [0, 1] rfl)⟩ rfl rfl hl.1 rfl (lv_room (Nat.le_of_ble_eq_true rfl)) dX10_doneJoins_19 ⟨lel 0 0 rfl, lel 0 0 rfl⟩) hS (fun q _ h => hFc q h) hFc (fun u_168 t H1 locs ht hvm hw_r_167 hB hz1 hk1 hS => ?_)
      obtain ⟨o0_169, o1_170, b_o0_169, hf_171, hf_172, hP1, hK1, hD1⟩ := hB
      rw [ht] at hP1
      have hK1 := va_K.moved hvm.symm hK1
      obtain ⟨hP, hD⟩ := va_join (wr := []) (w1 := [(o0, .inr (8, [.int x_th, .ref mwo, .ref mim, .ref mhi, .ref mlu, .ref mtp, .int x_td, .ref mfv, .int x_sz, .int x_at, .int x_fr, .int x_to, .int x_va, .int x_fk, .int x_fp, .ref mfr, .ref mwt, .int o0_169, .int x_op, .int x_jo, .ref mfg, .ref mpl, .long x_dr, .ref mtm, .ref mfa, .ref mqu, .ref mmo, .ref mwy, .ref mwn, .ref mma, .ref mwi, .ref mnu, .ref mmv])), (mfr, .inl (c_fr, 1875, .inl o1_170)), (mwt, .inl (c_wt, 78, .inl w_wt))]) hP hD [0, 1, 2] [] rfl rfl (by decide) (by decide) hk1 hFc hP1 hD1
      have hK := (hK.sub (tys' := []) [] rfl).app hK1
      generalize H1 = H at hP hS ⊢
      have hP : va_P (dC, dI) vwCl [(o0, .inr (8, [.int x_th, .ref mwo, .ref mim, .ref mhi, .ref mlu, .ref mtp, .int x_td, .ref mfv, .int x_sz, .int x_at, .int x_fr, .int x_to, .int x_va, .int x_fk, .int x_fp, .ref mfr, .ref mwt, .int o0_169, .int x_op, .int x_jo, .ref mfg, .ref mpl, .long x_dr, .ref mtm, .ref mfa, .ref mqu, .ref mmo, .ref mwy, .ref mwn, .ref mma, .ref mwi, .ref mnu, .ref mmv])), (mfr, .inl (c_fr, 1875, .inl o1_170)), (mwt, .inl (c_wt, 78, .inl w_wt))] H := hP
      have hD : va_D A [(o0, .inr (8, [.int x_th, .ref mwo, .ref mim, .ref mhi, .ref mlu, .ref mtp, .int x_td, .ref mfv, .int x_sz, .int x_at, .int x_fr, .int x_to, .int x_va, .int x_fk, .int x_fp, .ref mfr, .ref mwt, .int o0_169, .int x_op, .int x_jo, .ref mfg, .ref mpl, .long x_dr, .ref mtm, .ref mfa, .ref mqu, .ref mmo, .ref mwy, .ref mwn, .ref mma, .ref mwi, .ref mnu, .ref mmv])), (mfr, .inl (c_fr, 1875, .inl o1_170)), (mwt, .inl (c_wt, 78, .inl w_wt))] := hD
      have hK : va_K (dC, dI) vwCl [(c_fr, .int), (c_wt, .int)] s := hK
      refine lv_goto (tgt := 0) hx hb dX10_doneJoins_22 (by decide) ?_
      exact ih_0_144 (o0_169, o1_170) _ _ _ ⟨(show (0 : Int) ≤ o0_169.toInt ∧ o0_169.toInt ≤ 30 from (rg_w b_o0_169 (by decide) (by decide))), (show LI o1_170 w_wt o0_169 x_jo x_fr 1 from (hf_171)), (show o0_169.toInt ≤ x_op.toInt + x_jo.toInt from (by omega)), (show o0_169.toInt ≤ x_wt.toInt from (by omega)), (show OPN w_wt x_wt → OPN w_wt o0_169 from (fun h9 => (hop h9).done hf_172 (by rw [show o0_169.toInt.toNat = (y_115.toInt - 1).toNat from by omega]; omega))), hP, hD, hS, lv_sub hl [0] rfl⟩ (show o0_169.toInt.toNat < y_115.toInt.toNat by omega)
