theorem dX10_draw_0 : decode cX10_draw 0 = .ok (.aload_n 0, 1) := by decide +kernel
theorem dX10_draw_1 : decode cX10_draw 1 = .ok (.ldc2_w 390, 3) := by decide +kernel
theorem dX10_draw_4 : decode cX10_draw 4 = .ok (.aload_n 0, 1) := by decide +kernel
theorem dX10_draw_5 : decode cX10_draw 5 = .ok (.getfield 392, 3) := by decide +kernel
theorem dX10_draw_8 : decode cX10_draw 8 = .ok (.lmul, 1) := by decide +kernel
theorem dX10_draw_9 : decode cX10_draw 9 = .ok (.ldc2_w 396, 3) := by decide +kernel
theorem dX10_draw_12 : decode cX10_draw 12 = .ok (.ladd, 1) := by decide +kernel
theorem dX10_draw_13 : decode cX10_draw 13 = .ok (.ldc2_w 398, 3) := by decide +kernel
theorem dX10_draw_16 : decode cX10_draw 16 = .ok (.lrem, 1) := by decide +kernel
theorem dX10_draw_17 : decode cX10_draw 17 = .ok (.putfield 392, 3) := by decide +kernel
theorem dX10_draw_20 : decode cX10_draw 20 = .ok (.aload_n 0, 1) := by decide +kernel
theorem dX10_draw_21 : decode cX10_draw 21 = .ok (.getfield 392, 3) := by decide +kernel
theorem dX10_draw_24 : decode cX10_draw 24 = .ok (.ldc2_w 400, 3) := by decide +kernel
theorem dX10_draw_27 : decode cX10_draw 27 = .ok (.ldiv, 1) := by decide +kernel
theorem dX10_draw_28 : decode cX10_draw 28 = .ok (.iload_n 1, 1) := by decide +kernel
theorem dX10_draw_29 : decode cX10_draw 29 = .ok (.i2l, 1) := by decide +kernel
theorem dX10_draw_30 : decode cX10_draw 30 = .ok (.lrem, 1) := by decide +kernel
theorem dX10_draw_31 : decode cX10_draw 31 = .ok (.l2i, 1) := by decide +kernel
theorem dX10_draw_32 : decode cX10_draw 32 = .ok (.ireturn, 1) := by decide +kernel
def uX10_draw : List Cond := .code yX10_draw cX10_draw 2 (some .int) :: ([.constantLong RX10 390 (1103515245), .fieldLink RX10 392 "LuckyTicketModel" "drawn" "J", .constantLong RX10 396 (12345), .constantLong RX10 398 (2147483648), .constantLong RX10 400 (65536)] ++ wsX100)
theorem iX10_draw_X10 : ∀ w ∈ wsX100, w ∈ uX10_draw := fun _ h => List.mem_cons_of_mem _ (List.mem_append_right _ h)
set_option maxHeartbeats 4000000 in
set_option maxRecDepth 100000 in
theorem kX10_draw (l : Launch) (dC : Nat → ClassId) (dI : Nat → Nat → Nat) (o0 : Nat) (x_th : Int32) (mwo : Nat) (mim : Nat) (mhi : Nat) (mlu : Nat) (mtp : Nat) (x_td : Int32) (mfv : Nat) (x_sz : Int32) (x_at : Int32) (x_fr : Int32) (x_to : Int32) (x_va : Int32) (x_fk : Int32) (x_fp : Int32) (mfr : Nat) (mwt : Nat) (x_wt : Int32) (x_op : Int32) (x_jo : Int32) (mfg : Nat) (mpl : Nat) (x_dr : Int64) (mtm : Nat) (mfa : Nat) (mqu : Nat) (mmo : Nat) (mwy : Nat) (mwn : Nat) (mma : Nat) (mwi : Nat) (mnu : Nat) (mmv : Nat) (a1 : Int32) (sz : Nat) (b_x_dr : (0 : Int) ≤ x_dr.toInt ∧ x_dr.toInt ≤ 2147483647) (b_a1 : (1 : Int) ≤ a1.toInt ∧ a1.toInt ≤ 20000) : Met l yX10_draw uX10_draw ({ frames := 0, cells := 0, slots := 0, locals := 0 }) (va_Pc [.ref o0, .int a1] (hw (dC, dI) vwCl [(o0, .inr (8, [.int x_th, .ref mwo, .ref mim, .ref mhi, .ref mlu, .ref mtp, .int x_td, .ref mfv, .int x_sz, .int x_at, .int x_fr, .int x_to, .int x_va, .int x_fk, .int x_fp, .ref mfr, .ref mwt, .int x_wt, .int x_op, .int x_jo, .ref mfg, .ref mpl, .long x_dr, .ref mtm, .ref mfa, .ref mqu, .ref mmo, .ref mwy, .ref mwn, .ref mma, .ref mwi, .ref mnu, .ref mmv]))] [] sz)) (va_Qi (fun (r : Int32) (_ : Unit) => ((0 : Int) ≤ r.toInt ∧ r.toInt ≤ 19999) ∧ (r.toInt < a1.toInt)) (fun (_ : Unit) t => ∃ (o0_ : Int64), ((0 : Int) ≤ o0_.toInt ∧ o0_.toInt ≤ 2147483647) ∧ va_P (dC, dI) vwCl [(o0, .inr (8, [.int x_th, .ref mwo, .ref mim, .ref mhi, .ref mlu, .ref mtp, .int x_td, .ref mfv, .int x_sz, .int x_at, .int x_fr, .int x_to, .int x_va, .int x_fk, .int x_fp, .ref mfr, .ref mwt, .int x_wt, .int x_op, .int x_jo, .ref mfg, .ref mpl, .long o0_, .ref mtm, .ref mfa, .ref mqu, .ref mmo, .ref mwy, .ref mwn, .ref mma, .ref mwi, .ref mnu, .ref mmv]))] t.heap ∧ va_K (dC, dI) vwCl [] t ∧ va_D (va_A [(o0, .inr (8, [.int x_th, .ref mwo, .ref mim, .ref mhi, .ref mlu, .ref mtp, .int x_td, .ref mfv, .int x_sz, .int x_at, .int x_fr, .int x_to, .int x_va, .int x_fk, .int x_fp, .ref mfr, .ref mwt, .int x_wt, .int x_op, .int x_jo, .ref mfg, .ref mpl, .long x_dr, .ref mtm, .ref mfa, .ref mqu, .ref mmo, .ref mwy, .ref mwn, .ref mma, .ref mwi, .ref mnu, .ref mmv]))] sz) [(o0, .inr (8, [.int x_th, .ref mwo, .ref mim, .ref mhi, .ref mlu, .ref mtp, .int x_td, .ref mfv, .int x_sz, .int x_at, .int x_fr, .int x_to, .int x_va, .int x_fk, .int x_fp, .ref mfr, .ref mwt, .int x_wt, .int x_op, .int x_jo, .ref mfg, .ref mpl, .long o0_, .ref mtm, .ref mfa, .ref mqu, .ref mmo, .ref mwy, .ref mwn, .ref mma, .ref mwi, .ref mnu, .ref mmv]))]) (va_A [(o0, .inr (8, [.int x_th, .ref mwo, .ref mim, .ref mhi, .ref mlu, .ref mtp, .int x_td, .ref mfv, .int x_sz, .int x_at, .int x_fr, .int x_to, .int x_va, .int x_fk, .int x_fp, .ref mfr, .ref mwt, .int x_wt, .int x_op, .int x_jo, .ref mfg, .ref mpl, .long x_dr, .ref mtm, .ref mfa, .ref mqu, .ref mmo, .ref mwy, .ref mwn, .ref mma, .ref mwi, .ref mnu, .ref mmv]))] sz)) 0 0 (va_A [(o0, .inr (8, [.int x_th, .ref mwo, .ref mim, .ref mhi, .ref mlu, .ref mtp, .int x_td, .ref mfv, .int x_sz, .int x_at, .int x_fr, .int x_to, .int x_va, .int x_fk, .int x_fp, .ref mfr, .ref mwt, .int x_wt, .int x_op, .int x_jo, .ref mfg, .ref mpl, .long x_dr, .ref mtm, .ref mfa, .ref mqu, .ref mmo, .ref mwy, .ref mwn, .ref mma, .ref mwi, .ref mnu, .ref mmv]))] sz) := by
  refine Met.ofW (cc := cX10_draw) (maxL := 2) (ret := (some .int)) (by decide) rfl ?_
  intro p e s m args below meth c s₁ B hml hv
  obtain ⟨rfl, hsz, hP, hK, hD0, hN⟩ := hv
  have hx := B.exec
  have hb := B.bytes
  have hr := B.returns
  have hts := atoms_spec (ws := uX10_draw) B.pre
  have hown : s.vm.findClass RX10 = some m.cls := findClass_of_methodNamed B.named
  have hlocks := B.notSynchronized
  subst hsz
  have hD := hD0.self (sz := s.heap.size)
  generalize hAe : va_A [(o0, .inr (8, [.int x_th, .ref mwo, .ref mim, .ref mhi, .ref mlu, .ref mtp, .int x_td, .ref mfv, .int x_sz, .int x_at, .int x_fr, .int x_to, .int x_va, .int x_fk, .int x_fp, .ref mfr, .ref mwt, .int x_wt, .int x_op, .int x_jo, .ref mfg, .ref mpl, .long x_dr, .ref mtm, .ref mfa, .ref mqu, .ref mmo, .ref mwy, .ref mwn, .ref mma, .ref mwi, .ref mnu, .ref mmv]))] s.heap.size = A at hD ⊢
  have hA : ∀ q : Nat, s.heap.size ≤ q → A q := fun q h => by rw [← hAe]; exact Or.inr h
  have hS : va_S A s.heap s.heap [] := va_S.rf
  have hP : va_P (dC, dI) vwCl [(o0, .inr (8, [.int x_th, .ref mwo, .ref mim, .ref mhi, .ref mlu, .ref mtp, .int x_td, .ref mfv, .int x_sz, .int x_at, .int x_fr, .int x_to, .int x_va, .int x_fk, .int x_fp, .ref mfr, .ref mwt, .int x_wt, .int x_op, .int x_jo, .ref mfg, .ref mpl, .long x_dr, .ref mtm, .ref mfa, .ref mqu, .ref mmo, .ref mwy, .ref mwn, .ref mma, .ref mwi, .ref mnu, .ref mmv]))] s.heap := hP
  have hl := lv_entry ([.ref o0, .int a1]) (n := 2) (Nat.le_of_ble_eq_true rfl)
  rw [lg_entry_eq]
  generalize (lg_sl ([.ref o0, .int a1]) ++ List.replicate (2 - (lg_sl ([.ref o0, .int a1])).length) Slot.unset).toArray = ls at hl ⊢
  have hl : lv_has ls 2 [(0, .ref o0), (1, .int a1)] := hl
  refine lv_aload_n hx hb dX10_draw_0 rfl (lv_at hl 0 rfl) ?_
  refine lv_ldc2 (v := 1103515245) hx hb hown (hts (.constantLong RX10 390 (1103515245)) (List.mem_of_getElem? (i := 1) rfl)) dX10_draw_1 ?_
  refine lv_aload_n hx hb dX10_draw_4 rfl (lv_at hl 0 rfl) ?_
  refine va_get (D := (dC, dI)) (ci := 8) (v := .long x_dr) (C := RX10) (T := TX10) (N := 33) hx hb hts iX10_draw_X10 hown hK hP 0 rfl rfl 22 (by decide) (hts (.fieldLink RX10 392 "LuckyTicketModel" "drawn" "J") (List.mem_of_getElem? (i := 2) rfl)) (fun _ h9 => h9) rfl dX10_draw_5 ?_
  refine lv_lmul hx hb dX10_draw_8 ?_
  refine lv_topl (fun z_8 e_z_8 => ?_)
  obtain ⟨q_z_8, b_z_8⟩ := tl_mul (lo := 0) (hi := 2369780942852698515) e_z_8 (by decide : (1103515245 : Int64).toInt = 1103515245) rfl (by decide : (1103515245 : Int) ≤ (1103515245 : Int64).toInt ∧ (1103515245 : Int64).toInt ≤ 1103515245) b_x_dr (by decide)
  refine lv_ldc2 (v := 12345) hx hb hown (hts (.constantLong RX10 396 (12345)) (List.mem_of_getElem? (i := 3) rfl)) dX10_draw_9 ?_
  refine lv_ladd hx hb dX10_draw_12 ?_
  refine lv_topl (fun z_9 e_z_9 => ?_)
  obtain ⟨q_z_9, b_z_9⟩ := tl_add (lo := 12345) (hi := 2369780942852710860) e_z_9 rfl (by decide : (12345 : Int64).toInt = 12345) b_z_8 (by decide : (12345 : Int) ≤ (12345 : Int64).toInt ∧ (12345 : Int64).toInt ≤ 12345) (by decide)
  refine lv_ldc2 (v := 2147483648) hx hb hown (hts (.constantLong RX10 398 (2147483648)) (List.mem_of_getElem? (i := 4) rfl)) dX10_draw_13 ?_
  refine lv_lrem hx hb dX10_draw_16 (by decide) ?_
  refine lv_topl (fun z_10 e_z_10 => ?_)
  obtain ⟨q_z_10, b_z_10⟩ := tl_rem (hi := 2147483647) e_z_10 rfl (by decide : (2147483648 : Int64).toInt = 2147483648) b_z_9 (by decide : (2147483648 : Int) ≤ (2147483648 : Int64).toInt ∧ (2147483648 : Int64).toInt ≤ 2147483648) (by decide)
  refine va_put (D := (dC, dI)) (ci := 8) (v := .long z_10) (ty := .long) (C := RX10) (T := TX10) (N := 33) hx hb hts iX10_draw_X10 tyX10 tyX10_ok nmX10 hown hK hP hD hS 0 rfl rfl 22 (by decide) (hts (.fieldLink RX10 392 "LuckyTicketModel" "drawn" "J") (List.mem_of_getElem? (i := 2) rfl)) (fun _ h9 => h9) rfl (by decide +kernel) rfl rfl (Nat.le_of_ble_eq_true rfl) dX10_draw_17 (fun H locs hP hD hS => ?_)
  have hP : va_P (dC, dI) vwCl [(o0, .inr (8, [.int x_th, .ref mwo, .ref mim, .ref mhi, .ref mlu, .ref mtp, .int x_td, .ref mfv, .int x_sz, .int x_at, .int x_fr, .int x_to, .int x_va, .int x_fk, .int x_fp, .ref mfr, .ref mwt, .int x_wt, .int x_op, .int x_jo, .ref mfg, .ref mpl, .long z_10, .ref mtm, .ref mfa, .ref mqu, .ref mmo, .ref mwy, .ref mwn, .ref mma, .ref mwi, .ref mnu, .ref mmv]))] H := hP
  have hD : va_D A [(o0, .inr (8, [.int x_th, .ref mwo, .ref mim, .ref mhi, .ref mlu, .ref mtp, .int x_td, .ref mfv, .int x_sz, .int x_at, .int x_fr, .int x_to, .int x_va, .int x_fk, .int x_fp, .ref mfr, .ref mwt, .int x_wt, .int x_op, .int x_jo, .ref mfg, .ref mpl, .long z_10, .ref mtm, .ref mfa, .ref mqu, .ref mmo, .ref mwy, .ref mwn, .ref mma, .ref mwi, .ref mnu, .ref mmv]))] := hD
  refine lv_aload_n hx hb dX10_draw_20 rfl (lv_at hl 0 rfl) ?_
  refine va_get (D := (dC, dI)) (ci := 8) (v := .long z_10) (C := RX10) (T := TX10) (N := 33) hx hb hts iX10_draw_X10 hown hK hP 0 rfl rfl 22 (by decide) (hts (.fieldLink RX10 392 "LuckyTicketModel" "drawn" "J") (List.mem_of_getElem? (i := 2) rfl)) (fun _ h9 => h9) rfl dX10_draw_21 ?_
  refine lv_ldc2 (v := 65536) hx hb hown (hts (.constantLong RX10 400 (65536)) (List.mem_of_getElem? (i := 5) rfl)) dX10_draw_24 ?_
  refine lv_ldiv hx hb dX10_draw_27 (by decide) ?_
  refine lv_topl (fun z_11 e_z_11 => ?_)
  obtain ⟨q_z_11, b_z_11⟩ := tl_div (hi := 32767) e_z_11 rfl (by decide : (65536 : Int64).toInt = 65536) b_z_10 (by decide : (65536 : Int) ≤ (65536 : Int64).toInt ∧ (65536 : Int64).toInt ≤ 65536) (by decide)
  refine lv_iload_n hx hb dX10_draw_28 rfl (lv_at hl 1 rfl) ?_
  obtain ⟨z_12, e_z_12⟩ : ∃ y : Int64, y = a1.toInt64 := ⟨_, rfl⟩
  refine lv_i2l (v := z_12) hx hb dX10_draw_29 e_z_12.symm ?_
  obtain ⟨q_z_12, b_z_12⟩ := ti_i2l e_z_12 b_a1
  refine lv_lrem hx hb dX10_draw_30 (tl_ne b_z_12 (by decide)) ?_
  refine lv_topl (fun z_13 e_z_13 => ?_)
  obtain ⟨q_z_13, b_z_13⟩ := tl_rem (hi := 19999) e_z_13 rfl rfl b_z_11 b_z_12 (by decide)
  obtain ⟨z_14, e_z_14⟩ : ∃ y : Int32, y = z_13.toInt32 := ⟨_, rfl⟩
  refine lv_l2i (v := z_14) hx hb dX10_draw_31 e_z_14.symm ?_
  obtain ⟨q_z_14, b_z_14⟩ := ti_l2i e_z_14 b_z_13 (by decide)
  have hP9 := hP.sub (ws' := [(o0, .inr (8, [.int x_th, .ref mwo, .ref mim, .ref mhi, .ref mlu, .ref mtp, .int x_td, .ref mfv, .int x_sz, .int x_at, .int x_fr, .int x_to, .int x_va, .int x_fk, .int x_fp, .ref mfr, .ref mwt, .int x_wt, .int x_op, .int x_jo, .ref mfg, .ref mpl, .long z_10, .ref mtm, .ref mfa, .ref mqu, .ref mmo, .ref mwy, .ref mwn, .ref mma, .ref mwi, .ref mnu, .ref mmv]))]) [0] rfl
  have hD9 := hD.sub (ws' := [(o0, .inr (8, [.int x_th, .ref mwo, .ref mim, .ref mhi, .ref mlu, .ref mtp, .int x_td, .ref mfv, .int x_sz, .int x_at, .int x_fr, .int x_to, .int x_va, .int x_fk, .int x_fp, .ref mfr, .ref mwt, .int x_wt, .int x_op, .int x_jo, .ref mfg, .ref mpl, .long z_10, .ref mtm, .ref mfa, .ref mqu, .ref mmo, .ref mwy, .ref mwn, .ref mma, .ref mwi, .ref mnu, .ref mmv]))]) [0] (by decide) rfl
  have hK9 := hK.sub (tys' := []) [] rfl
  exact W.iret (v := z_14) hx hb hr (fun t ht hW => ⟨⟨z_14, (), rfl, ⟨b_z_14, (by omega)⟩, z_10, b_z_10, by rw [ht]; exact hP9, va_K.moved hW.alike hK9, hD9⟩, hS.F ht⟩) hS.2.2 dX10_draw_32
theorem dX10_draw__0 : decode cX10_draw_ 0 = .ok (.aload_n 0, 1) := by decide +kernel
theorem dX10_draw__1 : decode cX10_draw_ 1 = .ok (.iload_n 1, 1) := by decide +kernel
theorem dX10_draw__2 : decode cX10_draw_ 2 = .ok (.invokevirtual 89, 3) := by decide +kernel
theorem dX10_draw__5 : decode cX10_draw_ 5 = .ok (.ifCond .eq 10, 3) := by decide +kernel
theorem dX10_draw__8 : decode cX10_draw_ 8 = .ok (.iload_n 2, 1) := by decide +kernel
theorem dX10_draw__9 : decode cX10_draw_ 9 = .ok (.invokestatic 404, 3) := by decide +kernel
theorem dX10_draw__12 : decode cX10_draw_ 12 = .ok (.ifCond .ne 6, 3) := by decide +kernel
theorem dX10_draw__15 : decode cX10_draw_ 15 = .ok (.bipush (-2), 2) := by decide +kernel
theorem dX10_draw__17 : decode cX10_draw_ 17 = .ok (.ireturn, 1) := by decide +kernel
theorem dX10_draw__18 : decode cX10_draw_ 18 = .ok (.aload_n 0, 1) := by decide +kernel
theorem dX10_draw__19 : decode cX10_draw_ 19 = .ok (.iload_n 1, 1) := by decide +kernel
theorem dX10_draw__20 : decode cX10_draw_ 20 = .ok (.invokevirtual 322, 3) := by decide +kernel
theorem dX10_draw__23 : decode cX10_draw_ 23 = .ok (.istore_n 3, 1) := by decide +kernel
theorem dX10_draw__24 : decode cX10_draw_ 24 = .ok (.iload_n 3, 1) := by decide +kernel
theorem dX10_draw__25 : decode cX10_draw_ 25 = .ok (.ifCond .ne 5, 3) := by decide +kernel
theorem dX10_draw__28 : decode cX10_draw_ 28 = .ok (.iconst (-1), 1) := by decide +kernel
theorem dX10_draw__29 : decode cX10_draw_ 29 = .ok (.ireturn, 1) := by decide +kernel
theorem dX10_draw__30 : decode cX10_draw_ 30 = .ok (.aload_n 0, 1) := by decide +kernel
theorem dX10_draw__31 : decode cX10_draw_ 31 = .ok (.iload_n 2, 1) := by decide +kernel
theorem dX10_draw__32 : decode cX10_draw_ 32 = .ok (.i2l, 1) := by decide +kernel
theorem dX10_draw__33 : decode cX10_draw_ 33 = .ok (.putfield 392, 3) := by decide +kernel
theorem dX10_draw__36 : decode cX10_draw_ 36 = .ok (.aload_n 0, 1) := by decide +kernel
theorem dX10_draw__37 : decode cX10_draw_ 37 = .ok (.iload_n 1, 1) := by decide +kernel
theorem dX10_draw__38 : decode cX10_draw_ 38 = .ok (.aload_n 0, 1) := by decide +kernel
theorem dX10_draw__39 : decode cX10_draw_ 39 = .ok (.iload_n 3, 1) := by decide +kernel
theorem dX10_draw__40 : decode cX10_draw_ 40 = .ok (.invokevirtual 407, 3) := by decide +kernel
theorem dX10_draw__43 : decode cX10_draw_ 43 = .ok (.invokevirtual 331, 3) := by decide +kernel
theorem dX10_draw__46 : decode cX10_draw_ 46 = .ok (.ireturn, 1) := by decide +kernel
def uX10_draw_ : List Cond := .code yX10_draw_ cX10_draw_ 4 (some .int) :: ([.methodLink RX10 89 yX10_isLaw, .instanceMethod yX10_isLaw, .selects RX10 yX10_isLaw yX10_isLaw, .initialized RX10, .code yX10_isLaw cX10_isLaw 2 (some .boolean), .fieldLink RX10 9 "LuckyTicketModel" "world" "[I", .methodLink RX10 82 yX10_in, .static yX10_in, .code yX10_in cX10_in 6 (some .boolean), .methodLink RX10 404 yX10_isSeed, .static yX10_isSeed, .code yX10_isSeed cX10_isSeed 1 (some .boolean), .constantLong RX10 402 (2000000000), .methodLink RX10 322 yX10_allOf, .instanceMethod yX10_allOf, .selects RX10 yX10_allOf yX10_allOf, .code yX10_allOf cX10_allOf 2 (some .int), .methodLink RX10 319 yX10_rankOf, .instanceMethod yX10_rankOf, .selects RX10 yX10_rankOf yX10_rankOf, .code yX10_rankOf cX10_rankOf 5 (some .int), .fieldLink RX10 20 "LuckyTicketModel" "luck" "[I", .fieldLink RX10 392 "LuckyTicketModel" "drawn" "J", .methodLink RX10 407 yX10_draw, .instanceMethod yX10_draw, .selects RX10 yX10_draw yX10_draw, .code yX10_draw cX10_draw 2 (some .int), .constantLong RX10 390 (1103515245), .constantLong RX10 396 (12345), .constantLong RX10 398 (2147483648), .constantLong RX10 400 (65536), .methodLink RX10 331 yX10_nthOf, .instanceMethod yX10_nthOf, .selects RX10 yX10_nthOf yX10_nthOf, .code yX10_nthOf cX10_nthOf 5 (some .int), .methodLink RX10 316 yX10_isLucky, .instanceMethod yX10_isLucky, .selects RX10 yX10_isLucky yX10_isLucky, .code yX10_isLucky cX10_isLucky 3 (some .boolean)] ++ wsX100)
theorem iX10_draw__X10 : ∀ w ∈ wsX100, w ∈ uX10_draw_ := fun _ h => List.mem_cons_of_mem _ (List.mem_append_right _ h)
set_option maxRecDepth 20000 in
theorem gX10_draw___X10_isLaw_V89 : GoodIn uX10_draw_ (wsV RX10 89 RX10 yX10_isLaw uX10_isLaw) := goodIn_p _ [5, 9] rfl (by decide +kernel)
set_option maxRecDepth 20000 in
theorem gX10_draw___X10_isSeed_S404 : GoodIn uX10_draw_ (va_wsS RX10 404 yX10_isSeed uX10_isSeed) := goodIn_p _ [12, 9] rfl (by decide +kernel)
set_option maxRecDepth 20000 in
theorem gX10_draw___X10_allOf_V322 : GoodIn uX10_draw_ (wsV RX10 322 RX10 yX10_allOf uX10_allOf) := goodIn_p _ [17, 21] rfl (by decide +kernel)
set_option maxRecDepth 20000 in
theorem gX10_draw___X10_draw_V407 : GoodIn uX10_draw_ (wsV RX10 407 RX10 yX10_draw uX10_draw) := goodIn_p _ [27] rfl (by decide +kernel)
set_option maxRecDepth 20000 in
theorem gX10_draw___X10_nthOf_V331 : GoodIn uX10_draw_ (wsV RX10 331 RX10 yX10_nthOf uX10_nthOf) := goodIn_p _ [35, 39] rfl (by decide +kernel)
set_option maxHeartbeats 4000000 in
set_option maxRecDepth 100000 in
theorem kX10_draw_ (l : Launch) (dC : Nat → ClassId) (dI : Nat → Nat → Nat) (o0 : Nat) (x_th : Int32) (mwo : Nat) (mim : Nat) (mhi : Nat) (mlu : Nat) (mtp : Nat) (x_td : Int32) (mfv : Nat) (x_sz : Int32) (x_at : Int32) (x_fr : Int32) (x_to : Int32) (x_va : Int32) (x_fk : Int32) (x_fp : Int32) (mfr : Nat) (mwt : Nat) (x_wt : Int32) (x_op : Int32) (x_jo : Int32) (mfg : Nat) (mpl : Nat) (x_dr : Int64) (mtm : Nat) (mfa : Nat) (mqu : Nat) (mmo : Nat) (mwy : Nat) (mwn : Nat) (mma : Nat) (mwi : Nat) (mnu : Nat) (mmv : Nat) (c_wo : ClassId) (c_lu : ClassId) (w_wo : Nat → Int32) (w_lu : Nat → Int32) (ln : Int32) (bs : Int32) (tk : Int32) (lw : Int32) (li : Int32) (a1 : Int32) (a2 : Int32) (sz : Nat) (b_ln : (0 : Int) ≤ ln.toInt ∧ ln.toInt ≤ 12) (b_bs : (0 : Int) ≤ bs.toInt ∧ bs.toInt ≤ 16) (b_tk : (0 : Int) ≤ tk.toInt ∧ tk.toInt ≤ 20000) (b_lw : (0 : Int) ≤ lw.toInt ∧ lw.toInt ≤ 9) (hw0 : w_wo 0 = ln) (hw1 : w_wo 1 = bs) (hw2 : w_wo 2 = tk) (hw3 : w_wo 3 = lw) (hw4 : w_wo 4 = li) (hwz : (ln.toInt = 0 ∧ bs.toInt = 0 ∧ tk.toInt = 0 ∧ lw.toInt = 0) ∨ (1 ≤ ln.toInt ∧ 2 ≤ bs.toInt ∧ 1 ≤ tk.toInt)) : Met l yX10_draw_ uX10_draw_ ({ frames := 2, cells := 0, slots := 0, locals := 46 }) (va_Pc [.ref o0, .int a1, .int a2] (hw (dC, dI) vwCl [(o0, .inr (8, [.int x_th, .ref mwo, .ref mim, .ref mhi, .ref mlu, .ref mtp, .int x_td, .ref mfv, .int x_sz, .int x_at, .int x_fr, .int x_to, .int x_va, .int x_fk, .int x_fp, .ref mfr, .ref mwt, .int x_wt, .int x_op, .int x_jo, .ref mfg, .ref mpl, .long x_dr, .ref mtm, .ref mfa, .ref mqu, .ref mmo, .ref mwy, .ref mwn, .ref mma, .ref mwi, .ref mnu, .ref mmv])), (mwo, .inl (c_wo, 1875, .inl w_wo)), (mlu, .inl (c_lu, 20000, .inl w_lu))] [(c_wo, .int), (c_lu, .int)] sz)) (va_Qi (fun (r : Int32) (_ : Unit) => ((-2 : Int) ≤ r.toInt ∧ r.toInt ≤ 19999)) (fun (_ : Unit) t => ∃ (o0_ : Int64), va_P (dC, dI) vwCl [(o0, .inr (8, [.int x_th, .ref mwo, .ref mim, .ref mhi, .ref mlu, .ref mtp, .int x_td, .ref mfv, .int x_sz, .int x_at, .int x_fr, .int x_to, .int x_va, .int x_fk, .int x_fp, .ref mfr, .ref mwt, .int x_wt, .int x_op, .int x_jo, .ref mfg, .ref mpl, .long o0_, .ref mtm, .ref mfa, .ref mqu, .ref mmo, .ref mwy, .ref mwn, .ref mma, .ref mwi, .ref mnu, .ref mmv])), (mwo, .inl (c_wo, 1875, .inl w_wo)), (mlu, .inl (c_lu, 20000, .inl w_lu))] t.heap ∧ va_K (dC, dI) vwCl [(c_wo, .int), (c_lu, .int)] t ∧ va_D (va_A [(o0, .inr (8, [.int x_th, .ref mwo, .ref mim, .ref mhi, .ref mlu, .ref mtp, .int x_td, .ref mfv, .int x_sz, .int x_at, .int x_fr, .int x_to, .int x_va, .int x_fk, .int x_fp, .ref mfr, .ref mwt, .int x_wt, .int x_op, .int x_jo, .ref mfg, .ref mpl, .long x_dr, .ref mtm, .ref mfa, .ref mqu, .ref mmo, .ref mwy, .ref mwn, .ref mma, .ref mwi, .ref mnu, .ref mmv])), (mwo, .inl (c_wo, 1875, .inl w_wo)), (mlu, .inl (c_lu, 20000, .inl w_lu))] sz) [(o0, .inr (8, [.int x_th, .ref mwo, .ref mim, .ref mhi, .ref mlu, .ref mtp, .int x_td, .ref mfv, .int x_sz, .int x_at, .int x_fr, .int x_to, .int x_va, .int x_fk, .int x_fp, .ref mfr, .ref mwt, .int x_wt, .int x_op, .int x_jo, .ref mfg, .ref mpl, .long o0_, .ref mtm, .ref mfa, .ref mqu, .ref mmo, .ref mwy, .ref mwn, .ref mma, .ref mwi, .ref mnu, .ref mmv])), (mwo, .inl (c_wo, 1875, .inl w_wo)), (mlu, .inl (c_lu, 20000, .inl w_lu))]) (va_A [(o0, .inr (8, [.int x_th, .ref mwo, .ref mim, .ref mhi, .ref mlu, .ref mtp, .int x_td, .ref mfv, .int x_sz, .int x_at, .int x_fr, .int x_to, .int x_va, .int x_fk, .int x_fp, .ref mfr, .ref mwt, .int x_wt, .int x_op, .int x_jo, .ref mfg, .ref mpl, .long x_dr, .ref mtm, .ref mfa, .ref mqu, .ref mmo, .ref mwy, .ref mwn, .ref mma, .ref mwi, .ref mnu, .ref mmv])), (mwo, .inl (c_wo, 1875, .inl w_wo)), (mlu, .inl (c_lu, 20000, .inl w_lu))] sz)) 0 0 (va_A [(o0, .inr (8, [.int x_th, .ref mwo, .ref mim, .ref mhi, .ref mlu, .ref mtp, .int x_td, .ref mfv, .int x_sz, .int x_at, .int x_fr, .int x_to, .int x_va, .int x_fk, .int x_fp, .ref mfr, .ref mwt, .int x_wt, .int x_op, .int x_jo, .ref mfg, .ref mpl, .long x_dr, .ref mtm, .ref mfa, .ref mqu, .ref mmo, .ref mwy, .ref mwn, .ref mma, .ref mwi, .ref mnu, .ref mmv])), (mwo, .inl (c_wo, 1875, .inl w_wo)), (mlu, .inl (c_lu, 20000, .inl w_lu))] sz) := by
  refine Met.ofW (cc := cX10_draw_) (maxL := 4) (ret := (some .int)) (by decide) rfl ?_
  intro p e s m args below meth c s₁ B hml hv
  obtain ⟨rfl, hsz, hP, hK, hD0, hN⟩ := hv
  have hx := B.exec
  have hb := B.bytes
  have hr := B.returns
  have hts := atoms_spec (ws := uX10_draw_) B.pre
  have hown : s.vm.findClass RX10 = some m.cls := findClass_of_methodNamed B.named
  have hlocks := B.notSynchronized
  subst hsz
  have hD := hD0.self (sz := s.heap.size)
  generalize hAe : va_A [(o0, .inr (8, [.int x_th, .ref mwo, .ref mim, .ref mhi, .ref mlu, .ref mtp, .int x_td, .ref mfv, .int x_sz, .int x_at, .int x_fr, .int x_to, .int x_va, .int x_fk, .int x_fp, .ref mfr, .ref mwt, .int x_wt, .int x_op, .int x_jo, .ref mfg, .ref mpl, .long x_dr, .ref mtm, .ref mfa, .ref mqu, .ref mmo, .ref mwy, .ref mwn, .ref mma, .ref mwi, .ref mnu, .ref mmv])), (mwo, .inl (c_wo, 1875, .inl w_wo)), (mlu, .inl (c_lu, 20000, .inl w_lu))] s.heap.size = A at hD ⊢
  have hA : ∀ q : Nat, s.heap.size ≤ q → A q := fun q h => by rw [← hAe]; exact Or.inr h
  have hS : va_S A s.heap s.heap [] := va_S.rf
  have hP : va_P (dC, dI) vwCl [(o0, .inr (8, [.int x_th, .ref mwo, .ref mim, .ref mhi, .ref mlu, .ref mtp, .int x_td, .ref mfv, .int x_sz, .int x_at, .int x_fr, .int x_to, .int x_va, .int x_fk, .int x_fp, .ref mfr, .ref mwt, .int x_wt, .int x_op, .int x_jo, .ref mfg, .ref mpl, .long x_dr, .ref mtm, .ref mfa, .ref mqu, .ref mmo, .ref mwy, .ref mwn, .ref mma, .ref mwi, .ref mnu, .ref mmv])), (mwo, .inl (c_wo, 1875, .inl w_wo)), (mlu, .inl (c_lu, 20000, .inl w_lu))] s.heap := hP
  have hl := lv_entry ([.ref o0, .int a1, .int a2]) (n := 4) (Nat.le_of_ble_eq_true rfl)
  rw [lg_entry_eq]
  generalize (lg_sl ([.ref o0, .int a1, .int a2]) ++ List.replicate (4 - (lg_sl ([.ref o0, .int a1, .int a2])).length) Slot.unset).toArray = ls at hl ⊢
  have hl : lv_has ls 4 [(0, .ref o0), (1, .int a1), (2, .int a2)] := hl
  refine lv_aload_n hx hb dX10_draw__0 rfl (lv_at hl 0 rfl) ?_
  refine lv_iload_n hx hb dX10_draw__1 rfl (lv_at hl 1 rfl) ?_
  refine vp_callSi (W.runV (As := [.int a1]) (rest := []) ⟨hx, hb, hml, hown, hts⟩ (kX10_isLaw l dC dI o0 x_th mwo mim mhi mlu mtp x_td mfv x_sz x_at x_fr x_to x_va x_fk x_fp mfr mwt x_wt x_op x_jo mfg mpl x_dr mtm mfa mqu mmo mwy mwn mma mwi mnu mmv c_wo w_wo ln bs tk lw li a1 b_ln b_bs b_tk b_lw (hw0) (hw1) (hw2) (hw3) (hw4) (hwz)) (cwV 1 hts gX10_draw___X10_isLaw_V89 rfl rfl rfl (by decide +kernel) ⟨lel 2 2 rfl, lel 46 46 rfl⟩) ⟨pw_fb, va_recv hK hP (ci := 8) (q0 := 0) rfl rfl, (pw_use hP hK hN [0, 1] rfl [0] rfl)⟩ rfl rfl hl.1 rfl (lv_room (Nat.le_of_ble_eq_true rfl)) dX10_draw__2 ⟨lel 0 0 rfl, lel 0 0 rfl⟩) (fun r_14 h_r_14 => ?_)
  obtain ⟨b_r_14, nz_r_14⟩ := h_r_14
  have b_r_14 : (0 : Int) ≤ r_14.toInt ∧ r_14.toInt ≤ 1 := b_r_14
  refine lv_if_eq (tgt := 15) hx hb dX10_draw__5 (by decide) (fun c_15 => ?_) (fun c_15 => ?_)
  ·
    have n_c_15 : (r_14.toInt : Int) = 0 := c_eq rfl (by decide) c_15
    have b_r_14 : (0 : Int) ≤ r_14.toInt ∧ r_14.toInt ≤ 0 := r_eq1 b_r_14 (by decide : (0 : Int) ≤ (0 : Int32).toInt ∧ (0 : Int32).toInt ≤ 0) n_c_15 (by decide)
    refine lv_bipush (v := (-2)) hx hb dX10_draw__15 (by decide) ?_
    have hP9 := hP.sub (ws' := [(o0, .inr (8, [.int x_th, .ref mwo, .ref mim, .ref mhi, .ref mlu, .ref mtp, .int x_td, .ref mfv, .int x_sz, .int x_at, .int x_fr, .int x_to, .int x_va, .int x_fk, .int x_fp, .ref mfr, .ref mwt, .int x_wt, .int x_op, .int x_jo, .ref mfg, .ref mpl, .long x_dr, .ref mtm, .ref mfa, .ref mqu, .ref mmo, .ref mwy, .ref mwn, .ref mma, .ref mwi, .ref mnu, .ref mmv])), (mwo, .inl (c_wo, 1875, .inl w_wo)), (mlu, .inl (c_lu, 20000, .inl w_lu))]) [0, 1, 2] rfl
    have hD9 := hD.sub (ws' := [(o0, .inr (8, [.int x_th, .ref mwo, .ref mim, .ref mhi, .ref mlu, .ref mtp, .int x_td, .ref mfv, .int x_sz, .int x_at, .int x_fr, .int x_to, .int x_va, .int x_fk, .int x_fp, .ref mfr, .ref mwt, .int x_wt, .int x_op, .int x_jo, .ref mfg, .ref mpl, .long x_dr, .ref mtm, .ref mfa, .ref mqu, .ref mmo, .ref mwy, .ref mwn, .ref mma, .ref mwi, .ref mnu, .ref mmv])), (mwo, .inl (c_wo, 1875, .inl w_wo)), (mlu, .inl (c_lu, 20000, .inl w_lu))]) [0, 1, 2] (by decide) rfl
    have hK9 := hK.sub (tys' := [(c_wo, .int), (c_lu, .int)]) [0, 1] rfl
    exact W.iret (v := (-2)) hx hb hr (fun t ht hW => ⟨⟨(-2), (), rfl, (rg_w (by decide : (-2 : Int) ≤ ((-2) : Int32).toInt ∧ ((-2) : Int32).toInt ≤ -2) (by decide) (by decide)), x_dr, by rw [ht]; exact hP9, va_K.moved hW.alike hK9, hD9⟩, hS.F ht⟩) hS.2.2 dX10_draw__17
  ·
    have n_c_15 : (r_14.toInt : Int) ≠ 0 := c_ne rfl (by decide) c_15
    have b_r_14 : (1 : Int) ≤ r_14.toInt ∧ r_14.toInt ≤ 1 := r_ne1 b_r_14 (by decide : (0 : Int) ≤ (0 : Int32).toInt ∧ (0 : Int32).toInt ≤ 0) n_c_15 (by decide)
    obtain ⟨b_a1, g_16⟩ := nz_r_14 c_15
    refine lv_iload_n hx hb dX10_draw__8 rfl (lv_at hl 2 rfl) ?_
    refine vp_callSi (W.runS (As := [.int a2]) (rest := []) ⟨hx, hb, hml, hown, hts⟩ (kX10_isSeed l dC dI a2 ) (va_cwS 1 hts gX10_draw___X10_isSeed_S404 rfl rfl rfl (by decide +kernel) ⟨lel 2 2 rfl, lel 45 46 rfl⟩) ⟨pn_fb, pn_use⟩ rfl rfl hl.1 rfl (lv_room (Nat.le_of_ble_eq_true rfl)) dX10_draw__9 ⟨lel 0 0 rfl, lel 0 0 rfl⟩) (fun r_17 h_r_17 => ?_)
    obtain ⟨b_r_17, nz_r_17⟩ := h_r_17
    have b_r_17 : (0 : Int) ≤ r_17.toInt ∧ r_17.toInt ≤ 1 := b_r_17
    refine lv_if_ne (tgt := 18) hx hb dX10_draw__12 (by decide) (fun c_18 => ?_) (fun c_18 => ?_)
    ·
      have n_c_18 : (r_17.toInt : Int) ≠ 0 := c_ne rfl (by decide) c_18
      have b_r_17 : (1 : Int) ≤ r_17.toInt ∧ r_17.toInt ≤ 1 := r_ne1 b_r_17 (by decide : (0 : Int) ≤ (0 : Int32).toInt ∧ (0 : Int32).toInt ≤ 0) n_c_18 (by decide)
      obtain ⟨b_a2, g_19⟩ := nz_r_17 c_18
      refine lv_aload_n hx hb dX10_draw__18 rfl (lv_at hl 0 rfl) ?_
      refine lv_iload_n hx hb dX10_draw__19 rfl (lv_at hl 1 rfl) ?_
      refine vp_callSi (W.runV (As := [.int a1]) (rest := []) ⟨hx, hb, hml, hown, hts⟩ (kX10_allOf l dC dI o0 x_th mwo mim mhi mlu mtp x_td mfv x_sz x_at x_fr x_to x_va x_fk x_fp mfr mwt x_wt x_op x_jo mfg mpl x_dr mtm mfa mqu mmo mwy mwn mma mwi mnu mmv c_wo c_lu w_wo w_lu ln bs tk lw li a1 b_ln b_bs b_tk b_lw (hw0) (hw1) (hw2) (hw3) (hw4) (hwz)) (cwV 1 hts gX10_draw___X10_allOf_V322 rfl rfl rfl (by decide +kernel) ⟨lel 2 2 rfl, lel 45 46 rfl⟩) ⟨pw_fb, va_recv hK hP (ci := 8) (q0 := 0) rfl rfl, (pw_use hP hK hN [0, 1, 2] rfl [0, 1] rfl)⟩ rfl rfl hl.1 rfl (lv_room (Nat.le_of_ble_eq_true rfl)) dX10_draw__20 ⟨lel 0 0 rfl, lel 0 0 rfl⟩) (fun r_20 h_r_20 => ?_)
      obtain ⟨b_r_20, pr_r_20⟩ := h_r_20
      have b_r_20 : (0 : Int) ≤ r_20.toInt ∧ r_20.toInt ≤ 20000 := b_r_20
      refine lv_istore_n (lv' := [(3, .int r_20), (0, .ref o0), (1, .int a1), (2, .int a2)]) hx hb dX10_draw__23 rfl hl (by decide) rfl (fun ls hl => ?_)
      refine lv_iload_n hx hb dX10_draw__24 rfl (lv_at hl 0 rfl) ?_
      refine lv_if_ne (tgt := 30) hx hb dX10_draw__25 (by decide) (fun c_21 => ?_) (fun c_21 => ?_)
      ·
        have n_c_21 : (r_20.toInt : Int) ≠ 0 := c_ne rfl (by decide) c_21
        have b_r_20 : (1 : Int) ≤ r_20.toInt ∧ r_20.toInt ≤ 20000 := r_ne1 b_r_20 (by decide : (0 : Int) ≤ (0 : Int32).toInt ∧ (0 : Int32).toInt ≤ 0) n_c_21 (by decide)
        refine lv_aload_n hx hb dX10_draw__30 rfl (lv_at hl 1 rfl) ?_
        refine lv_iload_n hx hb dX10_draw__31 rfl (lv_at hl 3 rfl) ?_
        obtain ⟨z_22, e_z_22⟩ : ∃ y : Int64, y = a2.toInt64 := ⟨_, rfl⟩
        refine lv_i2l (v := z_22) hx hb dX10_draw__32 e_z_22.symm ?_
        obtain ⟨q_z_22, b_z_22⟩ := ti_i2l e_z_22 b_a2
        refine va_put (D := (dC, dI)) (ci := 8) (v := .long z_22) (ty := .long) (C := RX10) (T := TX10) (N := 33) hx hb hts iX10_draw__X10 tyX10 tyX10_ok nmX10 hown hK hP hD hS 0 rfl rfl 22 (by decide) (hts (.fieldLink RX10 392 "LuckyTicketModel" "drawn" "J") (List.mem_of_getElem? (i := 23) rfl)) (fun _ h9 => h9) rfl (by decide +kernel) rfl rfl (Nat.le_of_ble_eq_true rfl) dX10_draw__33 (fun H locs hP hD hS => ?_)
        have hP : va_P (dC, dI) vwCl [(o0, .inr (8, [.int x_th, .ref mwo, .ref mim, .ref mhi, .ref mlu, .ref mtp, .int x_td, .ref mfv, .int x_sz, .int x_at, .int x_fr, .int x_to, .int x_va, .int x_fk, .int x_fp, .ref mfr, .ref mwt, .int x_wt, .int x_op, .int x_jo, .ref mfg, .ref mpl, .long z_22, .ref mtm, .ref mfa, .ref mqu, .ref mmo, .ref mwy, .ref mwn, .ref mma, .ref mwi, .ref mnu, .ref mmv])), (mwo, .inl (c_wo, 1875, .inl w_wo)), (mlu, .inl (c_lu, 20000, .inl w_lu))] H := hP
        have hD : va_D A [(o0, .inr (8, [.int x_th, .ref mwo, .ref mim, .ref mhi, .ref mlu, .ref mtp, .int x_td, .ref mfv, .int x_sz, .int x_at, .int x_fr, .int x_to, .int x_va, .int x_fk, .int x_fp, .ref mfr, .ref mwt, .int x_wt, .int x_op, .int x_jo, .ref mfg, .ref mpl, .long z_22, .ref mtm, .ref mfa, .ref mqu, .ref mmo, .ref mwy, .ref mwn, .ref mma, .ref mwi, .ref mnu, .ref mmv])), (mwo, .inl (c_wo, 1875, .inl w_wo)), (mlu, .inl (c_lu, 20000, .inl w_lu))] := hD
        refine lv_aload_n hx hb dX10_draw__36 rfl (lv_at hl 1 rfl) ?_
        refine lv_iload_n hx hb dX10_draw__37 rfl (lv_at hl 2 rfl) ?_
        refine lv_aload_n hx hb dX10_draw__38 rfl (lv_at hl 1 rfl) ?_
        refine lv_iload_n hx hb dX10_draw__39 rfl (lv_at hl 0 rfl) ?_
        have hFc := va_free (wc := [(o0, .inr (8, [.int x_th, .ref mwo, .ref mim, .ref mhi, .ref mlu, .ref mtp, .int x_td, .ref mfv, .int x_sz, .int x_at, .int x_fr, .int x_to, .int x_va, .int x_fk, .int x_fp, .ref mfr, .ref mwt, .int x_wt, .int x_op, .int x_jo, .ref mfg, .ref mpl, .long z_22, .ref mtm, .ref mfa, .ref mqu, .ref mmo, .ref mwy, .ref mwn, .ref mma, .ref mwi, .ref mnu, .ref mmv]))]) hD hS hA [0] rfl
        refine va_calli (va_runV (As := [.int r_20]) (rest := [.int a1, .ref o0]) ⟨hx, hb, hml, hown, hts⟩ (kX10_draw l dC dI o0 x_th mwo mim mhi mlu mtp x_td mfv x_sz x_at x_fr x_to x_va x_fk x_fp mfr mwt x_wt x_op x_jo mfg mpl z_22 mtm mfa mqu mmo mwy mwn mma mwi mnu mmv r_20 (H.size) (rg_w b_z_22 (by decide) (by decide)) b_r_20) (cwV 1 hts gX10_draw___X10_draw_V407 rfl rfl rfl (by decide +kernel) ⟨lel 1 2 rfl, lel 21 46 rfl⟩) ⟨hw_fb, va_recv hK hP (ci := 8) (q0 := 0) rfl rfl, (hw_use hP hD hK hN [0] rfl (by decide) rfl [] rfl)⟩ rfl rfl hl.1 rfl (lv_room (Nat.le_of_ble_eq_true rfl)) dX10_draw__40 ⟨lel 0 0 rfl, lel 0 0 rfl⟩) hS (fun q _ h => hFc q h) hFc (fun r_23 u_24 t H1 locs ht hvm hw_r_23 hB hz1 hk1 hS => ?_)
        obtain ⟨o0_25, b_o0_25, hP1, hK1, hD1⟩ := hB
        rw [ht] at hP1
        have hK1 := va_K.moved hvm.symm hK1
        obtain ⟨hP, hD⟩ := va_join (wr := [(mwo, .inl (c_wo, 1875, .inl w_wo)), (mlu, .inl (c_lu, 20000, .inl w_lu))]) (w1 := [(o0, .inr (8, [.int x_th, .ref mwo, .ref mim, .ref mhi, .ref mlu, .ref mtp, .int x_td, .ref mfv, .int x_sz, .int x_at, .int x_fr, .int x_to, .int x_va, .int x_fk, .int x_fp, .ref mfr, .ref mwt, .int x_wt, .int x_op, .int x_jo, .ref mfg, .ref mpl, .long o0_25, .ref mtm, .ref mfa, .ref mqu, .ref mmo, .ref mwy, .ref mwn, .ref mma, .ref mwi, .ref mnu, .ref mmv]))]) hP hD [0] [1, 2] rfl rfl (by decide) (by decide) hk1 hFc hP1 hD1
        have hK := (hK.sub (tys' := [(c_wo, .int), (c_lu, .int)]) [0, 1] rfl).app hK1
        generalize H1 = H at hP hS ⊢
        have hP := hP.sub (ws' := [(o0, .inr (8, [.int x_th, .ref mwo, .ref mim, .ref mhi, .ref mlu, .ref mtp, .int x_td, .ref mfv, .int x_sz, .int x_at, .int x_fr, .int x_to, .int x_va, .int x_fk, .int x_fp, .ref mfr, .ref mwt, .int x_wt, .int x_op, .int x_jo, .ref mfg, .ref mpl, .long o0_25, .ref mtm, .ref mfa, .ref mqu, .ref mmo, .ref mwy, .ref mwn, .ref mma, .ref mwi, .ref mnu, .ref mmv])), (mwo, .inl (c_wo, 1875, .inl w_wo)), (mlu, .inl (c_lu, 20000, .inl w_lu))]) [2, 0, 1] rfl
        have hD := hD.sub (ws' := [(o0, .inr (8, [.int x_th, .ref mwo, .ref mim, .ref mhi, .ref mlu, .ref mtp, .int x_td, .ref mfv, .int x_sz, .int x_at, .int x_fr, .int x_to, .int x_va, .int x_fk, .int x_fp, .ref mfr, .ref mwt, .int x_wt, .int x_op, .int x_jo, .ref mfg, .ref mpl, .long o0_25, .ref mtm, .ref mfa, .ref mqu, .ref mmo, .ref mwy, .ref mwn, .ref mma, .ref mwi, .ref mnu, .ref mmv])), (mwo, .inl (c_wo, 1875, .inl w_wo)), (mlu, .inl (c_lu, 20000, .inl w_lu))]) [2, 0, 1] (by decide) rfl
        have hP : va_P (dC, dI) vwCl [(o0, .inr (8, [.int x_th, .ref mwo, .ref mim, .ref mhi, .ref mlu, .ref mtp, .int x_td, .ref mfv, .int x_sz, .int x_at, .int x_fr, .int x_to, .int x_va, .int x_fk, .int x_fp, .ref mfr, .ref mwt, .int x_wt, .int x_op, .int x_jo, .ref mfg, .ref mpl, .long o0_25, .ref mtm, .ref mfa, .ref mqu, .ref mmo, .ref mwy, .ref mwn, .ref mma, .ref mwi, .ref mnu, .ref mmv])), (mwo, .inl (c_wo, 1875, .inl w_wo)), (mlu, .inl (c_lu, 20000, .inl w_lu))] H := hP
        have hD : va_D A [(o0, .inr (8, [.int x_th, .ref mwo, .ref mim, .ref mhi, .ref mlu, .ref mtp, .int x_td, .ref mfv, .int x_sz, .int x_at, .int x_fr, .int x_to, .int x_va, .int x_fk, .int x_fp, .ref mfr, .ref mwt, .int x_wt, .int x_op, .int x_jo, .ref mfg, .ref mpl, .long o0_25, .ref mtm, .ref mfa, .ref mqu, .ref mmo, .ref mwy, .ref mwn, .ref mma, .ref mwi, .ref mnu, .ref mmv])), (mwo, .inl (c_wo, 1875, .inl w_wo)), (mlu, .inl (c_lu, 20000, .inl w_lu))] := hD
        have hK : va_K (dC, dI) vwCl [(c_wo, .int), (c_lu, .int)] s := hK
        obtain ⟨b_r_23, pr_r_23⟩ := hw_r_23
        have b_r_23 : (0 : Int) ≤ r_23.toInt ∧ r_23.toInt ≤ 19999 := b_r_23
        refine vp_callSi (W.runV (As := [.int a1, .int r_23]) (rest := []) ⟨hx, hb, hml, hown, hts⟩ (kX10_nthOf l dC dI o0 x_th mwo mim mhi mlu mtp x_td mfv x_sz x_at x_fr x_to x_va x_fk x_fp mfr mwt x_wt x_op x_jo mfg mpl o0_25 mtm mfa mqu mmo mwy mwn mma mwi mnu mmv c_wo c_lu w_wo w_lu ln bs tk lw li a1 r_23 b_ln b_bs b_tk b_lw (hw0) (hw1) (hw2) (hw3) (hw4) (hwz)) (cwV 2 hts gX10_draw___X10_nthOf_V331 rfl rfl rfl (by decide +kernel) ⟨lel 2 2 rfl, lel 46 46 rfl⟩) ⟨pw_fb, va_recv hK hP (ci := 8) (q0 := 0) rfl rfl, (pw_use hP hK hN [0, 1, 2] rfl [0, 1] rfl)⟩ rfl rfl hl.1 rfl (lv_room (Nat.le_of_ble_eq_true rfl)) dX10_draw__43 ⟨lel 0 0 rfl, lel 0 0 rfl⟩) (fun r_26 h_r_26 => ?_)
        have b_r_26 := h_r_26
        have b_r_26 : (-1 : Int) ≤ r_26.toInt ∧ r_26.toInt ≤ 19999 := b_r_26
        have hP9 := hP.sub (ws' := [(o0, .inr (8, [.int x_th, .ref mwo, .ref mim, .ref mhi, .ref mlu, .ref mtp, .int x_td, .ref mfv, .int x_sz, .int x_at, .int x_fr, .int x_to, .int x_va, .int x_fk, .int x_fp, .ref mfr, .ref mwt, .int x_wt, .int x_op, .int x_jo, .ref mfg, .ref mpl, .long o0_25, .ref mtm, .ref mfa, .ref mqu, .ref mmo, .ref mwy, .ref mwn, .ref mma, .ref mwi, .ref mnu, .ref mmv])), (mwo, .inl (c_wo, 1875, .inl w_wo)), (mlu, .inl (c_lu, 20000, .inl w_lu))]) [0, 1, 2] rfl
        have hD9 := hD.sub (ws' := [(o0, .inr (8, [.int x_th, .ref mwo, .ref mim, .ref mhi, .ref mlu, .ref mtp, .int x_td, .ref mfv, .int x_sz, .int x_at, .int x_fr, .int x_to, .int x_va, .int x_fk, .int x_fp, .ref mfr, .ref mwt, .int x_wt, .int x_op, .int x_jo, .ref mfg, .ref mpl, .long o0_25, .ref mtm, .ref mfa, .ref mqu, .ref mmo, .ref mwy, .ref mwn, .ref mma, .ref mwi, .ref mnu, .ref mmv])), (mwo, .inl (c_wo, 1875, .inl w_wo)), (mlu, .inl (c_lu, 20000, .inl w_lu))]) [0, 1, 2] (by decide) rfl
        have hK9 := hK.sub (tys' := [(c_wo, .int), (c_lu, .int)]) [0, 1] rfl
        exact W.iret (v := r_26) hx hb hr (fun t ht hW => ⟨⟨r_26, (), rfl, (rg_w b_r_26 (by decide) (by decide)), o0_25, by rw [ht]; exact hP9, va_K.moved hW.alike hK9, hD9⟩, hS.F ht⟩) hS.2.2 dX10_draw__46
      ·
        have n_c_21 : (r_20.toInt : Int) = 0 := c_eq rfl (by decide) c_21
        have b_r_20 : (0 : Int) ≤ r_20.toInt ∧ r_20.toInt ≤ 0 := r_eq1 b_r_20 (by decide : (0 : Int) ≤ (0 : Int32).toInt ∧ (0 : Int32).toInt ≤ 0) n_c_21 (by decide)
        refine lv_iconst (v := (-1)) hx hb dX10_draw__28 (by decide) ?_
        have hP9 := hP.sub (ws' := [(o0, .inr (8, [.int x_th, .ref mwo, .ref mim, .ref mhi, .ref mlu, .ref mtp, .int x_td, .ref mfv, .int x_sz, .int x_at, .int x_fr, .int x_to, .int x_va, .int x_fk, .int x_fp, .ref mfr, .ref mwt, .int x_wt, .int x_op, .int x_jo, .ref mfg, .ref mpl, .long x_dr, .ref mtm, .ref mfa, .ref mqu, .ref mmo, .ref mwy, .ref mwn, .ref mma, .ref mwi, .ref mnu, .ref mmv])), (mwo, .inl (c_wo, 1875, .inl w_wo)), (mlu, .inl (c_lu, 20000, .inl w_lu))]) [0, 1, 2] rfl
        have hD9 := hD.sub (ws' := [(o0, .inr (8, [.int x_th, .ref mwo, .ref mim, .ref mhi, .ref mlu, .ref mtp, .int x_td, .ref mfv, .int x_sz, .int x_at, .int x_fr, .int x_to, .int x_va, .int x_fk, .int x_fp, .ref mfr, .ref mwt, .int x_wt, .int x_op, .int x_jo, .ref mfg, .ref mpl, .long x_dr, .ref mtm, .ref mfa, .ref mqu, .ref mmo, .ref mwy, .ref mwn, .ref mma, .ref mwi, .ref mnu, .ref mmv])), (mwo, .inl (c_wo, 1875, .inl w_wo)), (mlu, .inl (c_lu, 20000, .inl w_lu))]) [0, 1, 2] (by decide) rfl
        have hK9 := hK.sub (tys' := [(c_wo, .int), (c_lu, .int)]) [0, 1] rfl
        exact W.iret (v := (-1)) hx hb hr (fun t ht hW => ⟨⟨(-1), (), rfl, (rg_w (by decide : (-1 : Int) ≤ ((-1) : Int32).toInt ∧ ((-1) : Int32).toInt ≤ -1) (by decide) (by decide)), x_dr, by rw [ht]; exact hP9, va_K.moved hW.alike hK9, hD9⟩, hS.F ht⟩) hS.2.2 dX10_draw__29
    ·
      have n_c_18 : (r_17.toInt : Int) = 0 := c_eq rfl (by decide) c_18
      have b_r_17 : (0 : Int) ≤ r_17.toInt ∧ r_17.toInt ≤ 0 := r_eq1 b_r_17 (by decide : (0 : Int) ≤ (0 : Int32).toInt ∧ (0 : Int32).toInt ≤ 0) n_c_18 (by decide)
      refine lv_bipush (v := (-2)) hx hb dX10_draw__15 (by decide) ?_
      have hP9 := hP.sub (ws' := [(o0, .inr (8, [.int x_th, .ref mwo, .ref mim, .ref mhi, .ref mlu, .ref mtp, .int x_td, .ref mfv, .int x_sz, .int x_at, .int x_fr, .int x_to, .int x_va, .int x_fk, .int x_fp, .ref mfr, .ref mwt, .int x_wt, .int x_op, .int x_jo, .ref mfg, .ref mpl, .long x_dr, .ref mtm, .ref mfa, .ref mqu, .ref mmo, .ref mwy, .ref mwn, .ref mma, .ref mwi, .ref mnu, .ref mmv])), (mwo, .inl (c_wo, 1875, .inl w_wo)), (mlu, .inl (c_lu, 20000, .inl w_lu))]) [0, 1, 2] rfl
      have hD9 := hD.sub (ws' := [(o0, .inr (8, [.int x_th, .ref mwo, .ref mim, .ref mhi, .ref mlu, .ref mtp, .int x_td, .ref mfv, .int x_sz, .int x_at, .int x_fr, .int x_to, .int x_va, .int x_fk, .int x_fp, .ref mfr, .ref mwt, .int x_wt, .int x_op, .int x_jo, .ref mfg, .ref mpl, .long x_dr, .ref mtm, .ref mfa, .ref mqu, .ref mmo, .ref mwy, .ref mwn, .ref mma, .ref mwi, .ref mnu, .ref mmv])), (mwo, .inl (c_wo, 1875, .inl w_wo)), (mlu, .inl (c_lu, 20000, .inl w_lu))]) [0, 1, 2] (by decide) rfl
      have hK9 := hK.sub (tys' := [(c_wo, .int), (c_lu, .int)]) [0, 1] rfl
      exact W.iret (v := (-2)) hx hb hr (fun t ht hW => ⟨⟨(-2), (), rfl, (rg_w (by decide : (-2 : Int) ≤ ((-2) : Int32).toInt ∧ ((-2) : Int32).toInt ≤ -2) (by decide) (by decide)), x_dr, by rw [ht]; exact hP9, va_K.moved hW.alike hK9, hD9⟩, hS.F ht⟩) hS.2.2 dX10_draw__17
theorem dX10_sold_0 : decode cX10_sold 0 = .ok (.aload_n 0, 1) := by decide +kernel
theorem dX10_sold_1 : decode cX10_sold 1 = .ok (.iload_n 1, 1) := by decide +kernel
theorem dX10_sold_2 : decode cX10_sold 2 = .ok (.iload_n 2, 1) := by decide +kernel
theorem dX10_sold_3 : decode cX10_sold 3 = .ok (.iload_n 3, 1) := by decide +kernel
theorem dX10_sold_4 : decode cX10_sold 4 = .ok (.invokevirtual 410, 3) := by decide +kernel
theorem dX10_sold_7 : decode cX10_sold 7 = .ok (.ifCond .ne 6, 3) := by decide +kernel
theorem dX10_sold_10 : decode cX10_sold 10 = .ok (.bipush (-2), 2) := by decide +kernel
theorem dX10_sold_12 : decode cX10_sold 12 = .ok (.ireturn, 1) := by decide +kernel
theorem dX10_sold_13 : decode cX10_sold 13 = .ok (.aload_n 0, 1) := by decide +kernel
theorem dX10_sold_14 : decode cX10_sold 14 = .ok (.iload_n 2, 1) := by decide +kernel
theorem dX10_sold_15 : decode cX10_sold 15 = .ok (.i2l, 1) := by decide +kernel
theorem dX10_sold_16 : decode cX10_sold 16 = .ok (.putfield 392, 3) := by decide +kernel
theorem dX10_sold_19 : decode cX10_sold 19 = .ok (.iconst 0, 1) := by decide +kernel
theorem dX10_sold_20 : decode cX10_sold 20 = .ok (.istore 4, 2) := by decide +kernel
theorem dX10_sold_22 : decode cX10_sold 22 = .ok (.iconst 0, 1) := by decide +kernel
theorem dX10_sold_23 : decode cX10_sold 23 = .ok (.istore 5, 2) := by decide +kernel
theorem dX10_sold_25 : decode cX10_sold 25 = .ok (.iload 5, 2) := by decide +kernel
theorem dX10_sold_27 : decode cX10_sold 27 = .ok (.iload_n 3, 1) := by decide +kernel
theorem dX10_sold_28 : decode cX10_sold 28 = .ok (.if_icmp .ge 37, 3) := by decide +kernel
theorem dX10_sold_31 : decode cX10_sold 31 = .ok (.iload 4, 2) := by decide +kernel
theorem dX10_sold_33 : decode cX10_sold 33 = .ok (.aload_n 0, 1) := by decide +kernel
theorem dX10_sold_34 : decode cX10_sold 34 = .ok (.iload_n 1, 1) := by decide +kernel
theorem dX10_sold_35 : decode cX10_sold 35 = .ok (.aload_n 0, 1) := by decide +kernel
theorem dX10_sold_36 : decode cX10_sold 36 = .ok (.aload_n 0, 1) := by decide +kernel
theorem dX10_sold_37 : decode cX10_sold 37 = .ok (.getfield 9, 3) := by decide +kernel
theorem dX10_sold_40 : decode cX10_sold 40 = .ok (.iconst 2, 1) := by decide +kernel
theorem dX10_sold_41 : decode cX10_sold 41 = .ok (.iaload, 1) := by decide +kernel
theorem dX10_sold_42 : decode cX10_sold 42 = .ok (.invokevirtual 407, 3) := by decide +kernel
theorem dX10_sold_45 : decode cX10_sold 45 = .ok (.invokevirtual 316, 3) := by decide +kernel
theorem dX10_sold_48 : decode cX10_sold 48 = .ok (.ifCond .eq 7, 3) := by decide +kernel
theorem dX10_sold_51 : decode cX10_sold 51 = .ok (.iconst 1, 1) := by decide +kernel
theorem dX10_sold_52 : decode cX10_sold 52 = .ok (.goto 4, 3) := by decide +kernel
theorem dX10_sold_55 : decode cX10_sold 55 = .ok (.iconst 0, 1) := by decide +kernel
theorem dX10_sold_56 : decode cX10_sold 56 = .ok (.iadd, 1) := by decide +kernel
theorem dX10_sold_57 : decode cX10_sold 57 = .ok (.istore 4, 2) := by decide +kernel
theorem dX10_sold_59 : decode cX10_sold 59 = .ok (.iinc 5 1, 3) := by decide +kernel
theorem dX10_sold_62 : decode cX10_sold 62 = .ok (.goto (-37), 3) := by decide +kernel
theorem dX10_sold_65 : decode cX10_sold 65 = .ok (.iload 4, 2) := by decide +kernel
theorem dX10_sold_67 : decode cX10_sold 67 = .ok (.ireturn, 1) := by decide +kernel
def uX10_sold : List Cond := .code yX10_sold cX10_sold 6 (some .int) :: ([.methodLink RX10 410 yX10_isSale, .instanceMethod yX10_isSale, .selects RX10 yX10_isSale yX10_isSale, .initialized RX10, .code yX10_isSale cX10_isSale 4 (some .boolean), .methodLink RX10 89 yX10_isLaw, .instanceMethod yX10_isLaw, .selects RX10 yX10_isLaw yX10_isLaw, .code yX10_isLaw cX10_isLaw 2 (some .boolean), .fieldLink RX10 9 "LuckyTicketModel" "world" "[I", .methodLink RX10 82 yX10_in, .static yX10_in, .code yX10_in cX10_in 6 (some .boolean), .methodLink RX10 404 yX10_isSeed, .static yX10_isSeed, .code yX10_isSeed cX10_isSeed 1 (some .boolean), .constantLong RX10 402 (2000000000), .constantLong RX10 346 (60), .fieldLink RX10 392 "LuckyTicketModel" "drawn" "J", .methodLink RX10 407 yX10_draw, .instanceMethod yX10_draw, .selects RX10 yX10_draw yX10_draw, .code yX10_draw cX10_draw 2 (some .int), .constantLong RX10 390 (1103515245), .constantLong RX10 396 (12345), .constantLong RX10 398 (2147483648), .constantLong RX10 400 (65536), .methodLink RX10 316 yX10_isLucky, .instanceMethod yX10_isLucky, .selects RX10 yX10_isLucky yX10_isLucky, .code yX10_isLucky cX10_isLucky 3 (some .boolean), .fieldLink RX10 20 "LuckyTicketModel" "luck" "[I"] ++ wsX100)
theorem iX10_sold_X10 : ∀ w ∈ wsX100, w ∈ uX10_sold := fun _ h => List.mem_cons_of_mem _ (List.mem_append_right _ h)
set_option maxRecDepth 20000 in
theorem gX10_sold__X10_isSale_V410 : GoodIn uX10_sold (wsV RX10 410 RX10 yX10_isSale uX10_isSale) := goodIn_p _ [5, 9, 13, 16] rfl (by decide +kernel)
set_option maxRecDepth 20000 in
theorem gX10_sold__X10_draw_V407 : GoodIn uX10_sold (wsV RX10 407 RX10 yX10_draw uX10_draw) := goodIn_p _ [23] rfl (by decide +kernel)
set_option maxRecDepth 20000 in
theorem gX10_sold__X10_isLucky_V316 : GoodIn uX10_sold (wsV RX10 316 RX10 yX10_isLucky uX10_isLucky) := goodIn_p _ [31] rfl (by decide +kernel)
set_option maxHeartbeats 4000000 in
set_option maxRecDepth 100000 in
theorem kX10_sold (l : Launch) (dC : Nat → ClassId) (dI : Nat → Nat → Nat) (o0 : Nat) (x_th : Int32) (mwo : Nat) (mim : Nat) (mhi : Nat) (mlu : Nat) (mtp : Nat) (x_td : Int32) (mfv : Nat) (x_sz : Int32) (x_at : Int32) (x_fr : Int32) (x_to : Int32) (x_va : Int32) (x_fk : Int32) (x_fp : Int32) (mfr : Nat) (mwt : Nat) (x_wt : Int32) (x_op : Int32) (x_jo : Int32) (mfg : Nat) (mpl : Nat) (x_dr : Int64) (mtm : Nat) (mfa : Nat) (mqu : Nat) (mmo : Nat) (mwy : Nat) (mwn : Nat) (mma : Nat) (mwi : Nat) (mnu : Nat) (mmv : Nat) (c_wo : ClassId) (c_lu : ClassId) (w_wo : Nat → Int32) (w_lu : Nat → Int32) (ln : Int32) (bs : Int32) (tk : Int32) (lw : Int32) (li : Int32) (a1 : Int32) (a2 : Int32) (a3 : Int32) (sz : Nat) (b_ln : (0 : Int) ≤ ln.toInt ∧ ln.toInt ≤ 12) (b_bs : (0 : Int) ≤ bs.toInt ∧ bs.toInt ≤ 16) (b_tk : (0 : Int) ≤ tk.toInt ∧ tk.toInt ≤ 20000) (b_lw : (0 : Int) ≤ lw.toInt ∧ lw.toInt ≤ 9) (hw0 : w_wo 0 = ln) (hw1 : w_wo 1 = bs) (hw2 : w_wo 2 = tk) (hw3 : w_wo 3 = lw) (hw4 : w_wo 4 = li) (hwz : (ln.toInt = 0 ∧ bs.toInt = 0 ∧ tk.toInt = 0 ∧ lw.toInt = 0) ∨ (1 ≤ ln.toInt ∧ 2 ≤ bs.toInt ∧ 1 ≤ tk.toInt)) : Met l yX10_sold uX10_sold ({ frames := 3, cells := 0, slots := 0, locals := 69 }) (va_Pc [.ref o0, .int a1, .int a2, .int a3] (hw (dC, dI) vwCl [(o0, .inr (8, [.int x_th, .ref mwo, .ref mim, .ref mhi, .ref mlu, .ref mtp, .int x_td, .ref mfv, .int x_sz, .int x_at, .int x_fr, .int x_to, .int x_va, .int x_fk, .int x_fp, .ref mfr, .ref mwt, .int x_wt, .int x_op, .int x_jo, .ref mfg, .ref mpl, .long x_dr, .ref mtm, .ref mfa, .ref mqu, .ref mmo, .ref mwy, .ref mwn, .ref mma, .ref mwi, .ref mnu, .ref mmv])), (mwo, .inl (c_wo, 1875, .inl w_wo)), (mlu, .inl (c_lu, 20000, .inl w_lu))] [(c_wo, .int), (c_lu, .int)] sz)) (va_Qi (fun (r : Int32) (_ : Unit) => True) (fun (_ : Unit) t => ∃ (o0_ : Int64), va_P (dC, dI) vwCl [(o0, .inr (8, [.int x_th, .ref mwo, .ref mim, .ref mhi, .ref mlu, .ref mtp, .int x_td, .ref mfv, .int x_sz, .int x_at, .int x_fr, .int x_to, .int x_va, .int x_fk, .int x_fp, .ref mfr, .ref mwt, .int x_wt, .int x_op, .int x_jo, .ref mfg, .ref mpl, .long o0_, .ref mtm, .ref mfa, .ref mqu, .ref mmo, .ref mwy, .ref mwn, .ref mma, .ref mwi, .ref mnu, .ref mmv])), (mwo, .inl (c_wo, 1875, .inl w_wo)), (mlu, .inl (c_lu, 20000, .inl w_lu))] t.heap ∧ va_K (dC, dI) vwCl [(c_wo, .int), (c_lu, .int)] t ∧ va_D (va_A [(o0, .inr (8, [.int x_th, .ref mwo, .ref mim, .ref mhi, .ref mlu, .ref mtp, .int x_td, .ref mfv, .int x_sz, .int x_at, .int x_fr, .int x_to, .int x_va, .int x_fk, .int x_fp, .ref mfr, .ref mwt, .int x_wt, .int x_op, .int x_jo, .ref mfg, .ref mpl, .long x_dr, .ref mtm, .ref mfa, .ref mqu, .ref mmo, .ref mwy, .ref mwn, .ref mma, .ref mwi, .ref mnu, .ref mmv])), (mwo, .inl (c_wo, 1875, .inl w_wo)), (mlu, .inl (c_lu, 20000, .inl w_lu))] sz) [(o0, .inr (8, [.int x_th, .ref mwo, .ref mim, .ref mhi, .ref mlu, .ref mtp, .int x_td, .ref mfv, .int x_sz, .int x_at, .int x_fr, .int x_to, .int x_va, .int x_fk, .int x_fp, .ref mfr, .ref mwt, .int x_wt, .int x_op, .int x_jo, .ref mfg, .ref mpl, .long o0_, .ref mtm, .ref mfa, .ref mqu, .ref mmo, .ref mwy, .ref mwn, .ref mma, .ref mwi, .ref mnu, .ref mmv])), (mwo, .inl (c_wo, 1875, .inl w_wo)), (mlu, .inl (c_lu, 20000, .inl w_lu))]) (va_A [(o0, .inr (8, [.int x_th, .ref mwo, .ref mim, .ref mhi, .ref mlu, .ref mtp, .int x_td, .ref mfv, .int x_sz, .int x_at, .int x_fr, .int x_to, .int x_va, .int x_fk, .int x_fp, .ref mfr, .ref mwt, .int x_wt, .int x_op, .int x_jo, .ref mfg, .ref mpl, .long x_dr, .ref mtm, .ref mfa, .ref mqu, .ref mmo, .ref mwy, .ref mwn, .ref mma, .ref mwi, .ref mnu, .ref mmv])), (mwo, .inl (c_wo, 1875, .inl w_wo)), (mlu, .inl (c_lu, 20000, .inl w_lu))] sz)) 0 0 (va_A [(o0, .inr (8, [.int x_th, .ref mwo, .ref mim, .ref mhi, .ref mlu, .ref mtp, .int x_td, .ref mfv, .int x_sz, .int x_at, .int x_fr, .int x_to, .int x_va, .int x_fk, .int x_fp, .ref mfr, .ref mwt, .int x_wt, .int x_op, .int x_jo, .ref mfg, .ref mpl, .long x_dr, .ref mtm, .ref mfa, .ref mqu, .ref mmo, .ref mwy, .ref mwn, .ref mma, .ref mwi, .ref mnu, .ref mmv])), (mwo, .inl (c_wo, 1875, .inl w_wo)), (mlu, .inl (c_lu, 20000, .inl w_lu))] sz) := by
  refine Met.ofW (cc := cX10_sold) (maxL := 6) (ret := (some .int)) (by decide) rfl ?_
  intro p e s m args below meth c s₁ B hml hv
  obtain ⟨rfl, hsz, hP, hK, hD0, hN⟩ := hv
  have hx := B.exec
  have hb := B.bytes
  have hr := B.returns
  have hts := atoms_spec (ws := uX10_sold) B.pre
  have hown : s.vm.findClass RX10 = some m.cls := findClass_of_methodNamed B.named
  have hlocks := B.notSynchronized
  subst hsz
  have hD := hD0.self (sz := s.heap.size)
  generalize hAe : va_A [(o0, .inr (8, [.int x_th, .ref mwo, .ref mim, .ref mhi, .ref mlu, .ref mtp, .int x_td, .ref mfv, .int x_sz, .int x_at, .int x_fr, .int x_to, .int x_va, .int x_fk, .int x_fp, .ref mfr, .ref mwt, .int x_wt, .int x_op, .int x_jo, .ref mfg, .ref mpl, .long x_dr, .ref mtm, .ref mfa, .ref mqu, .ref mmo, .ref mwy, .ref mwn, .ref mma, .ref mwi, .ref mnu, .ref mmv])), (mwo, .inl (c_wo, 1875, .inl w_wo)), (mlu, .inl (c_lu, 20000, .inl w_lu))] s.heap.size = A at hD ⊢
  have hA : ∀ q : Nat, s.heap.size ≤ q → A q := fun q h => by rw [← hAe]; exact Or.inr h
  have hS : va_S A s.heap s.heap [] := va_S.rf
  have hP : va_P (dC, dI) vwCl [(o0, .inr (8, [.int x_th, .ref mwo, .ref mim, .ref mhi, .ref mlu, .ref mtp, .int x_td, .ref mfv, .int x_sz, .int x_at, .int x_fr, .int x_to, .int x_va, .int x_fk, .int x_fp, .ref mfr, .ref mwt, .int x_wt, .int x_op, .int x_jo, .ref mfg, .ref mpl, .long x_dr, .ref mtm, .ref mfa, .ref mqu, .ref mmo, .ref mwy, .ref mwn, .ref mma, .ref mwi, .ref mnu, .ref mmv])), (mwo, .inl (c_wo, 1875, .inl w_wo)), (mlu, .inl (c_lu, 20000, .inl w_lu))] s.heap := hP
  have hl := lv_entry ([.ref o0, .int a1, .int a2, .int a3]) (n := 6) (Nat.le_of_ble_eq_true rfl)
  rw [lg_entry_eq]
  generalize (lg_sl ([.ref o0, .int a1, .int a2, .int a3]) ++ List.replicate (6 - (lg_sl ([.ref o0, .int a1, .int a2, .int a3])).length) Slot.unset).toArray = ls at hl ⊢
  have hl : lv_has ls 6 [(0, .ref o0), (1, .int a1), (2, .int a2), (3, .int a3)] := hl
  refine lv_aload_n hx hb dX10_sold_0 rfl (lv_at hl 0 rfl) ?_
  refine lv_iload_n hx hb dX10_sold_1 rfl (lv_at hl 1 rfl) ?_
  refine lv_iload_n hx hb dX10_sold_2 rfl (lv_at hl 2 rfl) ?_
  refine lv_iload_n hx hb dX10_sold_3 rfl (lv_at hl 3 rfl) ?_
  refine vp_callSi (W.runV (As := [.int a1, .int a2, .int a3]) (rest := []) ⟨hx, hb, hml, hown, hts⟩ (kX10_isSale l dC dI o0 x_th mwo mim mhi mlu mtp x_td mfv x_sz x_at x_fr x_to x_va x_fk x_fp mfr mwt x_wt x_op x_jo mfg mpl x_dr mtm mfa mqu mmo mwy mwn mma mwi mnu mmv c_wo w_wo ln bs tk lw li a1 a2 a3 b_ln b_bs b_tk b_lw (hw0) (hw1) (hw2) (hw3) (hw4) (hwz)) (cwV 3 hts gX10_sold__X10_isSale_V410 rfl rfl rfl (by decide +kernel) ⟨lel 3 3 rfl, lel 69 69 rfl⟩) ⟨pw_fb, va_recv hK hP (ci := 8) (q0 := 0) rfl rfl, (pw_use hP hK hN [0, 1] rfl [0] rfl)⟩ rfl rfl hl.1 rfl (lv_room (Nat.le_of_ble_eq_true rfl)) dX10_sold_4 ⟨lel 0 0 rfl, lel 0 0 rfl⟩) (fun r_178 h_r_178 => ?_)
  obtain ⟨b_r_178, nz_r_178⟩ := h_r_178
  have b_r_178 : (0 : Int) ≤ r_178.toInt ∧ r_178.toInt ≤ 1 := b_r_178
  refine lv_if_ne (tgt := 13) hx hb dX10_sold_7 (by decide) (fun c_179 => ?_) (fun c_179 => ?_)
  ·
    have n_c_179 : (r_178.toInt : Int) ≠ 0 := c_ne rfl (by decide) c_179
    have b_r_178 : (1 : Int) ≤ r_178.toInt ∧ r_178.toInt ≤ 1 := r_ne1 b_r_178 (by decide : (0 : Int) ≤ (0 : Int32).toInt ∧ (0 : Int32).toInt ≤ 0) n_c_179 (by decide)
    obtain ⟨b_a1, b_a2, b_a3, g_180⟩ := nz_r_178 c_179
    refine lv_aload_n hx hb dX10_sold_13 rfl (lv_at hl 0 rfl) ?_
    refine lv_iload_n hx hb dX10_sold_14 rfl (lv_at hl 2 rfl) ?_
    obtain ⟨z_181, e_z_181⟩ : ∃ y : Int64, y = a2.toInt64 := ⟨_, rfl⟩
    refine lv_i2l (v := z_181) hx hb dX10_sold_15 e_z_181.symm ?_
    obtain ⟨q_z_181, b_z_181⟩ := ti_i2l e_z_181 b_a2
    refine va_put (D := (dC, dI)) (ci := 8) (v := .long z_181) (ty := .long) (C := RX10) (T := TX10) (N := 33) hx hb hts iX10_sold_X10 tyX10 tyX10_ok nmX10 hown hK hP hD hS 0 rfl rfl 22 (by decide) (hts (.fieldLink RX10 392 "LuckyTicketModel" "drawn" "J") (List.mem_of_getElem? (i := 19) rfl)) (fun _ h9 => h9) rfl (by decide +kernel) rfl rfl (Nat.le_of_ble_eq_true rfl) dX10_sold_16 (fun H locs hP hD hS => ?_)
    have hP : va_P (dC, dI) vwCl [(o0, .inr (8, [.int x_th, .ref mwo, .ref mim, .ref mhi, .ref mlu, .ref mtp, .int x_td, .ref mfv, .int x_sz, .int x_at, .int x_fr, .int x_to, .int x_va, .int x_fk, .int x_fp, .ref mfr, .ref mwt, .int x_wt, .int x_op, .int x_jo, .ref mfg, .ref mpl, .long z_181, .ref mtm, .ref mfa, .ref mqu, .ref mmo, .ref mwy, .ref mwn, .ref mma, .ref mwi, .ref mnu, .ref mmv])), (mwo, .inl (c_wo, 1875, .inl w_wo)), (mlu, .inl (c_lu, 20000, .inl w_lu))] H := hP
    have hD : va_D A [(o0, .inr (8, [.int x_th, .ref mwo, .ref mim, .ref mhi, .ref mlu, .ref mtp, .int x_td, .ref mfv, .int x_sz, .int x_at, .int x_fr, .int x_to, .int x_va, .int x_fk, .int x_fp, .ref mfr, .ref mwt, .int x_wt, .int x_op, .int x_jo, .ref mfg, .ref mpl, .long z_181, .ref mtm, .ref mfa, .ref mqu, .ref mmo, .ref mwy, .ref mwn, .ref mma, .ref mwi, .ref mnu, .ref mmv])), (mwo, .inl (c_wo, 1875, .inl w_wo)), (mlu, .inl (c_lu, 20000, .inl w_lu))] := hD
    refine lv_iconst (v := 0) hx hb dX10_sold_19 (by decide) ?_
    refine lv_istore (lv' := [(4, .int 0), (0, .ref o0), (1, .int a1), (2, .int a2), (3, .int a3)]) hx hb dX10_sold_20 hl (by decide) rfl (fun ls hl => ?_)
    refine lv_iconst (v := 0) hx hb dX10_sold_22 (by decide) ?_
    refine lv_istore (lv' := [(5, .int 0), (4, .int 0), (0, .ref o0), (1, .int a1), (2, .int a2), (3, .int a3)]) hx hb dX10_sold_23 hl (by decide) rfl (fun ls hl => ?_)
    refine loopW (σ := Int32 × Int32 × Int64) (fun v => (60 - v.1.toInt).toNat) (fun v H locs ls => ((0 : Int) ≤ v.1.toInt ∧ v.1.toInt ≤ 60) ∧ ((0 : Int) ≤ v.2.2.toInt ∧ v.2.2.toInt ≤ 2147483647) ∧ va_P (dC, dI) vwCl [(o0, .inr (8, [.int x_th, .ref mwo, .ref mim, .ref mhi, .ref mlu, .ref mtp, .int x_td, .ref mfv, .int x_sz, .int x_at, .int x_fr, .int x_to, .int x_va, .int x_fk, .int x_fp, .ref mfr, .ref mwt, .int x_wt, .int x_op, .int x_jo, .ref mfg, .ref mpl, .long v.2.2, .ref mtm, .ref mfa, .ref mqu, .ref mmo, .ref mwy, .ref mwn, .ref mma, .ref mwi, .ref mnu, .ref mmv])), (mwo, .inl (c_wo, 1875, .inl w_wo)), (mlu, .inl (c_lu, 20000, .inl w_lu))] H ∧ va_D A [(o0, .inr (8, [.int x_th, .ref mwo, .ref mim, .ref mhi, .ref mlu, .ref mtp, .int x_td, .ref mfv, .int x_sz, .int x_at, .int x_fr, .int x_to, .int x_va, .int x_fk, .int x_fp, .ref mfr, .ref mwt, .int x_wt, .int x_op, .int x_jo, .ref mfg, .ref mpl, .long v.2.2, .ref mtm, .ref mfa, .ref mqu, .ref mmo, .ref mwy, .ref mwn, .ref mma, .ref mwi, .ref mnu, .ref mmv])), (mwo, .inl (c_wo, 1875, .inl w_wo)), (mlu, .inl (c_lu, 20000, .inl w_lu))] ∧ va_S A s.heap H locs ∧ lv_has ls 6 [(5, .int v.1), (4, .int v.2.1), (0, .ref o0), (1, .int a1), (2, .int a2), (3, .int a3)]) (fun v H locs ls hI ih_25_344 => ?_) ((0 : Int32), (0 : Int32), z_181) ⟨(show (0 : Int) ≤ (0 : Int32).toInt ∧ (0 : Int32).toInt ≤ 60 from (rg_w (by decide : (0 : Int) ≤ (0 : Int32).toInt ∧ (0 : Int32).toInt ≤ 0) (by decide) (by decide))), (show (0 : Int) ≤ z_181.toInt ∧ z_181.toInt ≤ 2147483647 from (rg_w b_z_181 (by decide) (by decide))), hP, hD, hS, lv_sub hl [0, 1, 2, 3, 4, 5] rfl⟩
    obtain ⟨y_192, y_193, y_194⟩ := v
    obtain ⟨b_y_192, b_y_194, hP, hD, hS, hl⟩ := hI
    have b_y_192 : (0 : Int) ≤ y_192.toInt ∧ y_192.toInt ≤ 60 := b_y_192
    have b_y_194 : (0 : Int) ≤ y_194.toInt ∧ y_194.toInt ≤ 2147483647 := b_y_194
    have hP : va_P (dC, dI) vwCl [(o0, .inr (8, [.int x_th, .ref mwo, .ref mim, .ref mhi, .ref mlu, .ref mtp, .int x_td, .ref mfv, .int x_sz, .int x_at, .int x_fr, .int x_to, .int x_va, .int x_fk, .int x_fp, .ref mfr, .ref mwt, .int x_wt, .int x_op, .int x_jo, .ref mfg, .ref mpl, .long y_194, .ref mtm, .ref mfa, .ref mqu, .ref mmo, .ref mwy, .ref mwn, .ref mma, .ref mwi, .ref mnu, .ref mmv])), (mwo, .inl (c_wo, 1875, .inl w_wo)), (mlu, .inl (c_lu, 20000, .inl w_lu))] H := hP
    have hD : va_D A [(o0, .inr (8, [.int x_th, .ref mwo, .ref mim, .ref mhi, .ref mlu, .ref mtp, .int x_td, .ref mfv, .int x_sz, .int x_at, .int x_fr, .int x_to, .int x_va, .int x_fk, .int x_fp, .ref mfr, .ref mwt, .int x_wt, .int x_op, .int x_jo, .ref mfg, .ref mpl, .long y_194, .ref mtm, .ref mfa, .ref mqu, .ref mmo, .ref mwy, .ref mwn, .ref mma, .ref mwi, .ref mnu, .ref mmv])), (mwo, .inl (c_wo, 1875, .inl w_wo)), (mlu, .inl (c_lu, 20000, .inl w_lu))] := hD
    have hl : lv_has ls 6 [(5, .int y_192), (4, .int y_193), (0, .ref o0), (1, .int a1), (2, .int a2), (3, .int a3)] := hl
    refine lv_iload hx hb dX10_sold_25 (lv_at hl 0 rfl) ?_
    refine lv_iload_n hx hb dX10_sold_27 rfl (lv_at hl 5 rfl) ?_
    refine lv_icmp_ge (tgt := 65) hx hb dX10_sold_28 (by decide) (fun c_345 => ?_) (fun c_345 => ?_)
    ·
      have n_c_345 : (a3.toInt : Int) ≤ y_192.toInt := c_ge rfl rfl c_345
      have b_y_192 : (1 : Int) ≤ y_192.toInt ∧ y_192.toInt ≤ 60 := r_le2 b_a3 b_y_192 n_c_345 (by decide)
      refine lv_iload hx hb dX10_sold_65 (lv_at hl 1 rfl) ?_
      have hP9 := hP.sub (ws' := [(o0, .inr (8, [.int x_th, .ref mwo, .ref mim, .ref mhi, .ref mlu, .ref mtp, .int x_td, .ref mfv, .int x_sz, .int x_at, .int x_fr, .int x_to, .int x_va, .int x_fk, .int x_fp, .ref mfr, .ref mwt, .int x_wt, .int x_op, .int x_jo, .ref mfg, .ref mpl, .long y_194, .ref mtm, .ref mfa, .ref mqu, .ref mmo, .ref mwy, .ref mwn, .ref mma, .ref mwi, .ref mnu, .ref mmv])), (mwo, .inl (c_wo, 1875, .inl w_wo)), (mlu, .inl (c_lu, 20000, .inl w_lu))]) [0, 1, 2] rfl
      have hD9 := hD.sub (ws' := [(o0, .inr (8, [.int x_th, .ref mwo, .ref mim, .ref mhi, .ref mlu, .ref mtp, .int x_td, .ref mfv, .int x_sz, .int x_at, .int x_fr, .int x_to, .int x_va, .int x_fk, .int x_fp, .ref mfr, .ref mwt, .int x_wt, .int x_op, .int x_jo, .ref mfg, .ref mpl, .long y_194, .ref mtm, .ref mfa, .ref mqu, .ref mmo, .ref mwy, .ref mwn, .ref mma, .ref mwi, .ref mnu, .ref mmv])), (mwo, .inl (c_wo, 1875, .inl w_wo)), (mlu, .inl (c_lu, 20000, .inl w_lu))]) [0, 1, 2] (by decide) rfl
      have hK9 := hK.sub (tys' := [(c_wo, .int), (c_lu, .int)]) [0, 1] rfl
      exact W.iret (v := y_193) hx hb hr (fun t ht hW => ⟨⟨y_193, (), rfl, trivial, y_194, by rw [ht]; exact hP9, va_K.moved hW.alike hK9, hD9⟩, hS.F ht⟩) hS.2.2 dX10_sold_67
    ·
      have n_c_345 : (y_192.toInt : Int) < a3.toInt := c_nge rfl rfl c_345
      have b_y_192 : (0 : Int) ≤ y_192.toInt ∧ y_192.toInt ≤ 59 := r_lt1 b_y_192 b_a3 n_c_345 (by decide)
      refine lv_iload hx hb dX10_sold_31 (lv_at hl 1 rfl) ?_
      refine lv_aload_n hx hb dX10_sold_33 rfl (lv_at hl 2 rfl) ?_
      refine lv_iload_n hx hb dX10_sold_34 rfl (lv_at hl 3 rfl) ?_
      refine lv_aload_n hx hb dX10_sold_35 rfl (lv_at hl 2 rfl) ?_
      refine lv_aload_n hx hb dX10_sold_36 rfl (lv_at hl 2 rfl) ?_
      refine va_get (D := (dC, dI)) (ci := 8) (v := .ref mwo) (C := RX10) (T := TX10) (N := 33) hx hb hts iX10_sold_X10 hown hK hP 0 rfl rfl 1 (by decide) (hts (.fieldLink RX10 9 "LuckyTicketModel" "world" "[I") (List.mem_of_getElem? (i := 10) rfl)) (fun _ h9 => h9) rfl dX10_sold_37 ?_
      refine lv_iconst (v := 2) hx hb dX10_sold_40 (by decide) ?_
      refine va_iald hx hb hK hP 1 0 rfl rfl (vp_in_b (by decide : (2 : Int) ≤ (2 : Int32).toInt ∧ (2 : Int32).toInt ≤ 2) (by decide) (by decide)) dX10_sold_41 ?_
      refine lv_topi (fun z_346 e_z_346 => ?_)
      obtain rfl : z_346 = tk := e_z_346.trans hw2
      have hFc := va_free (wc := [(o0, .inr (8, [.int x_th, .ref mwo, .ref mim, .ref mhi, .ref mlu, .ref mtp, .int x_td, .ref mfv, .int x_sz, .int x_at, .int x_fr, .int x_to, .int x_va, .int x_fk, .int x_fp, .ref mfr, .ref mwt, .int x_wt, .int x_op, .int x_jo, .ref mfg, .ref mpl, .long y_194, .ref mtm, .ref mfa, .ref mqu, .ref mmo, .ref mwy, .ref mwn, .ref mma, .ref mwi, .ref mnu, .ref mmv]))]) hD hS hA [0] rfl
      refine va_calli (va_runV (As := [.int tk]) (rest := [.int a1, .ref o0, .int y_193]) ⟨hx, hb, hml, hown, hts⟩ (kX10_draw l dC dI o0 x_th mwo mim mhi mlu mtp x_td mfv x_sz x_at x_fr x_to x_va x_fk x_fp mfr mwt x_wt x_op x_jo mfg mpl y_194 mtm mfa mqu mmo mwy mwn mma mwi mnu mmv tk (H.size) b_y_194 ⟨by omega, by omega⟩) (cwV 1 hts gX10_sold__X10_draw_V407 rfl rfl rfl (by decide +kernel) ⟨lel 1 3 rfl, lel 21 69 rfl⟩) ⟨hw_fb, va_recv hK hP (ci := 8) (q0 := 0) rfl rfl, (hw_use hP hD hK hN [0] rfl (by decide) rfl [] rfl)⟩ rfl rfl hl.1 rfl (lv_room (Nat.le_of_ble_eq_true rfl)) dX10_sold_42 ⟨lel 0 0 rfl, lel 0 0 rfl⟩) hS (fun q _ h => hFc q h) hFc (fun r_347 u_348 t H1 locs ht hvm hw_r_347 hB hz1 hk1 hS => ?_)
      obtain ⟨o0_349, b_o0_349, hP1, hK1, hD1⟩ := hB
      rw [ht] at hP1
      have hK1 := va_K.moved hvm.symm hK1
      obtain ⟨hP, hD⟩ := va_join (wr := [(mwo, .inl (c_wo, 1875, .inl w_wo)), (mlu, .inl (c_lu, 20000, .inl w_lu))]) (w1 := [(o0, .inr (8, [.int x_th, .ref mwo, .ref mim, .ref mhi, .ref mlu, .ref mtp, .int x_td, .ref mfv, .int x_sz, .int x_at, .int x_fr, .int x_to, .int x_va, .int x_fk, .int x_fp, .ref mfr, .ref mwt, .int x_wt, .int x_op, .int x_jo, .ref mfg, .ref mpl, .long o0_349, .ref mtm, .ref mfa, .ref mqu, .ref mmo, .ref mwy, .ref mwn, .ref mma, .ref mwi, .ref mnu, .ref mmv]))]) hP hD [0] [1, 2] rfl rfl (by decide) (by decide) hk1 hFc hP1 hD1
      have hK := (hK.sub (tys' := [(c_wo, .int), (c_lu, .int)]) [0, 1] rfl).app hK1
      generalize H1 = H at hP hS ⊢
      have hP := hP.sub (ws' := [(o0, .inr (8, [.int x_th, .ref mwo, .ref mim, .ref mhi, .ref mlu, .ref mtp, .int x_td, .ref mfv, .int x_sz, .int x_at, .int x_fr, .int x_to, .int x_va, .int x_fk, .int x_fp, .ref mfr, .ref mwt, .int x_wt, .int x_op, .int x_jo, .ref mfg, .ref mpl, .long o0_349, .ref mtm, .ref mfa, .ref mqu, .ref mmo, .ref mwy, .ref mwn, .ref mma, .ref mwi, .ref mnu, .ref mmv])), (mwo, .inl (c_wo, 1875, .inl w_wo)), (mlu, .inl (c_lu, 20000, .inl w_lu))]) [2, 0, 1] rfl
      have hD := hD.sub (ws' := [(o0, .inr (8, [.int x_th, .ref mwo, .ref mim, .ref mhi, .ref mlu, .ref mtp, .int x_td, .ref mfv, .int x_sz, .int x_at, .int x_fr, .int x_to, .int x_va, .int x_fk, .int x_fp, .ref mfr, .ref mwt, .int x_wt, .int x_op, .int x_jo, .ref mfg, .ref mpl, .long o0_349, .ref mtm, .ref mfa, .ref mqu, .ref mmo, .ref mwy, .ref mwn, .ref mma, .ref mwi, .ref mnu, .ref mmv])), (mwo, .inl (c_wo, 1875, .inl w_wo)), (mlu, .inl (c_lu, 20000, .inl w_lu))]) [2, 0, 1] (by decide) rfl
      have hP : va_P (dC, dI) vwCl [(o0, .inr (8, [.int x_th, .ref mwo, .ref mim, .ref mhi, .ref mlu, .ref mtp, .int x_td, .ref mfv, .int x_sz, .int x_at, .int x_fr, .int x_to, .int x_va, .int x_fk, .int x_fp, .ref mfr, .ref mwt, .int x_wt, .int x_op, .int x_jo, .ref mfg, .ref mpl, .long o0_349, .ref mtm, .ref mfa, .ref mqu, .ref mmo, .ref mwy, .ref mwn, .ref mma, .ref mwi, .ref mnu, .ref mmv])), (mwo, .inl (c_wo, 1875, .inl w_wo)), (mlu, .inl (c_lu, 20000, .inl w_lu))] H := hP
      have hD : va_D A [(o0, .inr (8, [.int x_th, .ref mwo, .ref mim, .ref mhi, .ref mlu, .ref mtp, .int x_td, .ref mfv, .int x_sz, .int x_at, .int x_fr, .int x_to, .int x_va, .int x_fk, .int x_fp, .ref mfr, .ref mwt, .int x_wt, .int x_op, .int x_jo, .ref mfg, .ref mpl, .long o0_349, .ref mtm, .ref mfa, .ref mqu, .ref mmo, .ref mwy, .ref mwn, .ref mma, .ref mwi, .ref mnu, .ref mmv])), (mwo, .inl (c_wo, 1875, .inl w_wo)), (mlu, .inl (c_lu, 20000, .inl w_lu))] := hD
      have hK : va_K (dC, dI) vwCl [(c_wo, .int), (c_lu, .int)] s := hK
      obtain ⟨b_r_347, pr_r_347⟩ := hw_r_347
      have b_r_347 : (0 : Int) ≤ r_347.toInt ∧ r_347.toInt ≤ 19999 := b_r_347
      refine vp_callSi (W.runV (As := [.int a1, .int r_347]) (rest := [.int y_193]) ⟨hx, hb, hml, hown, hts⟩ (kX10_isLucky l dC dI o0 x_th mwo mim mhi mlu mtp x_td mfv x_sz x_at x_fr x_to x_va x_fk x_fp mfr mwt x_wt x_op x_jo mfg mpl o0_349 mtm mfa mqu mmo mwy mwn mma mwi mnu mmv c_wo c_lu w_wo w_lu ln bs tk lw li a1 r_347 b_ln b_bs b_tk b_lw b_r_347 (hw0) (hw1) (hw2) (hw3) (hw4) (hwz)) (cwV 2 hts gX10_sold__X10_isLucky_V316 rfl rfl rfl (by decide +kernel) ⟨lel 1 3 rfl, lel 22 69 rfl⟩) ⟨pw_fb, va_recv hK hP (ci := 8) (q0 := 0) rfl rfl, (pw_use hP hK hN [0, 1, 2] rfl [0, 1] rfl)⟩ rfl rfl hl.1 rfl (lv_room (Nat.le_of_ble_eq_true rfl)) dX10_sold_45 ⟨lel 0 0 rfl, lel 0 0 rfl⟩) (fun r_350 h_r_350 => ?_)
      have b_r_350 := h_r_350
      have b_r_350 : (0 : Int) ≤ r_350.toInt ∧ r_350.toInt ≤ 1 := b_r_350
      refine cutW (σ := Int32) (pc2 := 56) (st2 := fun v => [.int v, .int y_193]) (cells2 := 0) (slots2 := 0) (fun v H locs ls => ((0 : Int) ≤ v.toInt ∧ v.toInt ≤ 1) ∧ va_P (dC, dI) vwCl [(o0, .inr (8, [.int x_th, .ref mwo, .ref mim, .ref mhi, .ref mlu, .ref mtp, .int x_td, .ref mfv, .int x_sz, .int x_at, .int x_fr, .int x_to, .int x_va, .int x_fk, .int x_fp, .ref mfr, .ref mwt, .int x_wt, .int x_op, .int x_jo, .ref mfg, .ref mpl, .long o0_349, .ref mtm, .ref mfa, .ref mqu, .ref mmo, .ref mwy, .ref mwn, .ref mma, .ref mwi, .ref mnu, .ref mmv])), (mwo, .inl (c_wo, 1875, .inl w_wo)), (mlu, .inl (c_lu, 20000, .inl w_lu))] H ∧ va_D A [(o0, .inr (8, [.int x_th, .ref mwo, .ref mim, .ref mhi, .ref mlu, .ref mtp, .int x_td, .ref mfv, .int x_sz, .int x_at, .int x_fr, .int x_to, .int x_va, .int x_fk, .int x_fp, .ref mfr, .ref mwt, .int x_wt, .int x_op, .int x_jo, .ref mfg, .ref mpl, .long o0_349, .ref mtm, .ref mfa, .ref mqu, .ref mmo, .ref mwy, .ref mwn, .ref mma, .ref mwi, .ref mnu, .ref mmv])), (mwo, .inl (c_wo, 1875, .inl w_wo)), (mlu, .inl (c_lu, 20000, .inl w_lu))] ∧ va_S A s.heap H locs ∧ lv_has ls 6 [(5, .int y_192), (4, .int y_193), (0, .ref o0), (1, .int a1), (2, .int a2), (3, .int a3)]) (fun v H locs ls hI => ?_) (fun hj_56_352 => ?_)
      ·
        obtain ⟨y_352, rfl⟩ : ∃ z, z = v := ⟨_, rfl⟩
        obtain ⟨b_y_352, hP, hD, hS, hl⟩ := hI
        have b_y_352 : (0 : Int) ≤ y_352.toInt ∧ y_352.toInt ≤ 1 := b_y_352
        have hP : va_P (dC, dI) vwCl [(o0, .inr (8, [.int x_th, .ref mwo, .ref mim, .ref mhi, .ref mlu, .ref mtp, .int x_td, .ref mfv, .int x_sz, .int x_at, .int x_fr, .int x_to, .int x_va, .int x_fk, .int x_fp, .ref mfr, .ref mwt, .int x_wt, .int x_op, .int x_jo, .ref mfg, .ref mpl, .long o0_349, .ref mtm, .ref mfa, .ref mqu, .ref mmo, .ref mwy, .ref mwn, .ref mma, .ref mwi, .ref mnu, .ref mmv])), (mwo, .inl (c_wo, 1875, .inl w_wo)), (mlu, .inl (c_lu, 20000, .inl w_lu))] H := hP
        have hD : va_D A [(o0, .inr (8, [.int x_th, .ref mwo, .ref mim, .ref mhi, .ref mlu, .ref mtp, .int x_td, .ref mfv, .int x_sz, .int x_at, .int x_fr, .int x_to, .int x_va, .int x_fk, .int x_fp, .ref mfr, .ref mwt, .int x_wt, .int x_op, .int x_jo, .ref mfg, .ref mpl, .long o0_349, .ref mtm, .ref mfa, .ref mqu, .ref mmo, .ref mwy, .ref mwn, .ref mma, .ref mwi, .ref mnu, .ref mmv])), (mwo, .inl (c_wo, 1875, .inl w_wo)), (mlu, .inl (c_lu, 20000, .inl w_lu))] := hD
        have hl : lv_has ls 6 [(5, .int y_192), (4, .int y_193), (0, .ref o0), (1, .int a1), (2, .int a2), (3, .int a3)] := hl
        refine lv_iadd hx hb dX10_sold_56 ?_
        refine lv_topi (fun z_353 e_z_353 => ?_)
        refine lv_istore (lv' := [(4, .int z_353), (5, .int y_192), (0, .ref o0), (1, .int a1), (2, .int a2), (3, .int a3)]) hx hb dX10_sold_57 hl (by decide) rfl (fun ls hl => ?_)
        obtain ⟨z_354, e_z_354⟩ : ∃ y : Int32, y = y_192 + 1 := ⟨_, rfl⟩
        refine lv_iinc (v := z_354) (lv' := [(5, .int z_354), (4, .int z_353), (0, .ref o0), (1, .int a1), (2, .int a2), (3, .int a3)]) hx hb dX10_sold_59 hl (k := 1) rfl (by rw [e_z_354]; rfl) (by decide) rfl (fun ls hl => ?_)
        obtain ⟨q_z_354, b_z_354⟩ := ti_add (lo := 1) (hi := 60) e_z_354 rfl (by decide : (1 : Int32).toInt = 1) b_y_192 (by decide : (1 : Int) ≤ (1 : Int32).toInt ∧ (1 : Int32).toInt ≤ 1) (by decide)
        refine lv_goto (tgt := 25) hx hb dX10_sold_62 (by decide) ?_
        exact ih_25_344 (z_354, z_353, o0_349) _ _ _ ⟨(show (0 : Int) ≤ z_354.toInt ∧ z_354.toInt ≤ 60 from (rg_w b_z_354 (by decide) (by decide))), (show (0 : Int) ≤ o0_349.toInt ∧ o0_349.toInt ≤ 2147483647 from b_o0_349), hP, hD, hS, lv_sub hl [0, 1, 2, 3, 4, 5] rfl⟩ (show (60 - z_354.toInt).toNat < (60 - y_192.toInt).toNat by omega)
      ·
        refine lv_if_eq (tgt := 55) hx hb dX10_sold_48 (by decide) (fun c_351 => ?_) (fun c_351 => ?_)
        ·
          have n_c_351 : (r_350.toInt : Int) = 0 := c_eq rfl (by decide) c_351
          have b_r_350 : (0 : Int) ≤ r_350.toInt ∧ r_350.toInt ≤ 0 := r_eq1 b_r_350 (by decide : (0 : Int) ≤ (0 : Int32).toInt ∧ (0 : Int32).toInt ≤ 0) n_c_351 (by decide)
          refine lv_iconst (v := 0) hx hb dX10_sold_55 (by decide) ?_
          exact hj_56_352 (0 : Int32) _ _ _ ⟨(show (0 : Int) ≤ (0 : Int32).toInt ∧ (0 : Int32).toInt ≤ 1 from (rg_w (by decide : (0 : Int) ≤ (0 : Int32).toInt ∧ (0 : Int32).toInt ≤ 0) (by decide) (by decide))), hP, hD, hS, lv_sub hl [0, 1, 2, 3, 4, 5] rfl⟩
        ·
          have n_c_351 : (r_350.toInt : Int) ≠ 0 := c_ne rfl (by decide) c_351
          have b_r_350 : (1 : Int) ≤ r_350.toInt ∧ r_350.toInt ≤ 1 := r_ne1 b_r_350 (by decide : (0 : Int) ≤ (0 : Int32).toInt ∧ (0 : Int32).toInt ≤ 0) n_c_351 (by decide)
          refine lv_iconst (v := 1) hx hb dX10_sold_51 (by decide) ?_
          refine lv_goto (tgt := 56) hx hb dX10_sold_52 (by decide) ?_
          exact hj_56_352 (1 : Int32) _ _ _ ⟨(show (0 : Int) ≤ (1 : Int32).toInt ∧ (1 : Int32).toInt ≤ 1 from (rg_w (by decide : (1 : Int) ≤ (1 : Int32).toInt ∧ (1 : Int32).toInt ≤ 1) (by decide) (by decide))), hP, hD, hS, lv_sub hl [0, 1, 2, 3, 4, 5] rfl⟩
  ·
    have n_c_179 : (r_178.toInt : Int) = 0 := c_eq rfl (by decide) c_179
    have b_r_178 : (0 : Int) ≤ r_178.toInt ∧ r_178.toInt ≤ 0 := r_eq1 b_r_178 (by decide : (0 : Int) ≤ (0 : Int32).toInt ∧ (0 : Int32).toInt ≤ 0) n_c_179 (by decide)
    refine lv_bipush (v := (-2)) hx hb dX10_sold_10 (by decide) ?_
    have hP9 := hP.sub (ws' := [(o0, .inr (8, [.int x_th, .ref mwo, .ref mim, .ref mhi, .ref mlu, .ref mtp, .int x_td, .ref mfv, .int x_sz, .int x_at, .int x_fr, .int x_to, .int x_va, .int x_fk, .int x_fp, .ref mfr, .ref mwt, .int x_wt, .int x_op, .int x_jo, .ref mfg, .ref mpl, .long x_dr, .ref mtm, .ref mfa, .ref mqu, .ref mmo, .ref mwy, .ref mwn, .ref mma, .ref mwi, .ref mnu, .ref mmv])), (mwo, .inl (c_wo, 1875, .inl w_wo)), (mlu, .inl (c_lu, 20000, .inl w_lu))]) [0, 1, 2] rfl
    have hD9 := hD.sub (ws' := [(o0, .inr (8, [.int x_th, .ref mwo, .ref mim, .ref mhi, .ref mlu, .ref mtp, .int x_td, .ref mfv, .int x_sz, .int x_at, .int x_fr, .int x_to, .int x_va, .int x_fk, .int x_fp, .ref mfr, .ref mwt, .int x_wt, .int x_op, .int x_jo, .ref mfg, .ref mpl, .long x_dr, .ref mtm, .ref mfa, .ref mqu, .ref mmo, .ref mwy, .ref mwn, .ref mma, .ref mwi, .ref mnu, .ref mmv])), (mwo, .inl (c_wo, 1875, .inl w_wo)), (mlu, .inl (c_lu, 20000, .inl w_lu))]) [0, 1, 2] (by decide) rfl
    have hK9 := hK.sub (tys' := [(c_wo, .int), (c_lu, .int)]) [0, 1] rfl
    exact W.iret (v := (-2)) hx hb hr (fun t ht hW => ⟨⟨(-2), (), rfl, trivial, x_dr, by rw [ht]; exact hP9, va_K.moved hW.alike hK9, hD9⟩, hS.F ht⟩) hS.2.2 dX10_sold_12
theorem dX10_first_0 : decode cX10_first 0 = .ok (.aload_n 0, 1) := by decide +kernel
theorem dX10_first_1 : decode cX10_first 1 = .ok (.iload_n 1, 1) := by decide +kernel
theorem dX10_first_2 : decode cX10_first 2 = .ok (.iload_n 2, 1) := by decide +kernel
theorem dX10_first_3 : decode cX10_first 3 = .ok (.iload_n 3, 1) := by decide +kernel
theorem dX10_first_4 : decode cX10_first 4 = .ok (.invokevirtual 410, 3) := by decide +kernel
theorem dX10_first_7 : decode cX10_first 7 = .ok (.ifCond .ne 6, 3) := by decide +kernel
theorem dX10_first_10 : decode cX10_first 10 = .ok (.bipush (-2), 2) := by decide +kernel
theorem dX10_first_12 : decode cX10_first 12 = .ok (.ireturn, 1) := by decide +kernel
theorem dX10_first_13 : decode cX10_first 13 = .ok (.aload_n 0, 1) := by decide +kernel
theorem dX10_first_14 : decode cX10_first 14 = .ok (.iload_n 2, 1) := by decide +kernel
theorem dX10_first_15 : decode cX10_first 15 = .ok (.i2l, 1) := by decide +kernel
theorem dX10_first_16 : decode cX10_first 16 = .ok (.putfield 392, 3) := by decide +kernel
theorem dX10_first_19 : decode cX10_first 19 = .ok (.iconst 1, 1) := by decide +kernel
theorem dX10_first_20 : decode cX10_first 20 = .ok (.istore 4, 2) := by decide +kernel
theorem dX10_first_22 : decode cX10_first 22 = .ok (.iload 4, 2) := by decide +kernel
theorem dX10_first_24 : decode cX10_first 24 = .ok (.iload_n 3, 1) := by decide +kernel
theorem dX10_first_25 : decode cX10_first 25 = .ok (.if_icmp .gt 30, 3) := by decide +kernel
theorem dX10_first_28 : decode cX10_first 28 = .ok (.aload_n 0, 1) := by decide +kernel
theorem dX10_first_29 : decode cX10_first 29 = .ok (.iload_n 1, 1) := by decide +kernel
theorem dX10_first_30 : decode cX10_first 30 = .ok (.aload_n 0, 1) := by decide +kernel
theorem dX10_first_31 : decode cX10_first 31 = .ok (.aload_n 0, 1) := by decide +kernel
theorem dX10_first_32 : decode cX10_first 32 = .ok (.getfield 9, 3) := by decide +kernel
theorem dX10_first_35 : decode cX10_first 35 = .ok (.iconst 2, 1) := by decide +kernel
theorem dX10_first_36 : decode cX10_first 36 = .ok (.iaload, 1) := by decide +kernel
theorem dX10_first_37 : decode cX10_first 37 = .ok (.invokevirtual 407, 3) := by decide +kernel
theorem dX10_first_40 : decode cX10_first 40 = .ok (.invokevirtual 316, 3) := by decide +kernel
theorem dX10_first_43 : decode cX10_first 43 = .ok (.ifCond .eq 6, 3) := by decide +kernel
theorem dX10_first_46 : decode cX10_first 46 = .ok (.iload 4, 2) := by decide +kernel
theorem dX10_first_48 : decode cX10_first 48 = .ok (.ireturn, 1) := by decide +kernel
theorem dX10_first_49 : decode cX10_first 49 = .ok (.iinc 4 1, 3) := by decide +kernel
theorem dX10_first_52 : decode cX10_first 52 = .ok (.goto (-30), 3) := by decide +kernel
theorem dX10_first_55 : decode cX10_first 55 = .ok (.iconst (-1), 1) := by decide +kernel
theorem dX10_first_56 : decode cX10_first 56 = .ok (.ireturn, 1) := by decide +kernel
def uX10_first : List Cond := .code yX10_first cX10_first 5 (some .int) :: ([.methodLink RX10 410 yX10_isSale, .instanceMethod yX10_isSale, .selects RX10 yX10_isSale yX10_isSale, .initialized RX10, .code yX10_isSale cX10_isSale 4 (some .boolean), .methodLink RX10 89 yX10_isLaw, .instanceMethod yX10_isLaw, .selects RX10 yX10_isLaw yX10_isLaw, .code yX10_isLaw cX10_isLaw 2 (some .boolean), .fieldLink RX10 9 "LuckyTicketModel" "world" "[I", .methodLink RX10 82 yX10_in, .static yX10_in, .code yX10_in cX10_in 6 (some .boolean), .methodLink RX10 404 yX10_isSeed, .static yX10_isSeed, .code yX10_isSeed cX10_isSeed 1 (some .boolean), .constantLong RX10 402 (2000000000), .constantLong RX10 346 (60), .fieldLink RX10 392 "LuckyTicketModel" "drawn" "J", .methodLink RX10 407 yX10_draw, .instanceMethod yX10_draw, .selects RX10 yX10_draw yX10_draw, .code yX10_draw cX10_draw 2 (some .int), .constantLong RX10 390 (1103515245), .constantLong RX10 396 (12345), .constantLong RX10 398 (2147483648), .constantLong RX10 400 (65536), .methodLink RX10 316 yX10_isLucky, .instanceMethod yX10_isLucky, .selects RX10 yX10_isLucky yX10_isLucky, .code yX10_isLucky cX10_isLucky 3 (some .boolean), .fieldLink RX10 20 "LuckyTicketModel" "luck" "[I"] ++ wsX100)
theorem iX10_first_X10 : ∀ w ∈ wsX100, w ∈ uX10_first := fun _ h => List.mem_cons_of_mem _ (List.mem_append_right _ h)
set_option maxRecDepth 20000 in
theorem gX10_first__X10_isSale_V410 : GoodIn uX10_first (wsV RX10 410 RX10 yX10_isSale uX10_isSale) := goodIn_p _ [5, 9, 13, 16] rfl (by decide +kernel)
set_option maxRecDepth 20000 in
theorem gX10_first__X10_draw_V407 : GoodIn uX10_first (wsV RX10 407 RX10 yX10_draw uX10_draw) := goodIn_p _ [23] rfl (by decide +kernel)
set_option maxRecDepth 20000 in
theorem gX10_first__X10_isLucky_V316 : GoodIn uX10_first (wsV RX10 316 RX10 yX10_isLucky uX10_isLucky) := goodIn_p _ [31] rfl (by decide +kernel)
set_option maxHeartbeats 4000000 in
set_option maxRecDepth 100000 in
theorem kX10_first (l : Launch) (dC : Nat → ClassId) (dI : Nat → Nat → Nat) (o0 : Nat) (x_th : Int32) (mwo : Nat) (mim : Nat) (mhi : Nat) (mlu : Nat) (mtp : Nat) (x_td : Int32) (mfv : Nat) (x_sz : Int32) (x_at : Int32) (x_fr : Int32) (x_to : Int32) (x_va : Int32) (x_fk : Int32) (x_fp : Int32) (mfr : Nat) (mwt : Nat) (x_wt : Int32) (x_op : Int32) (x_jo : Int32) (mfg : Nat) (mpl : Nat) (x_dr : Int64) (mtm : Nat) (mfa : Nat) (mqu : Nat) (mmo : Nat) (mwy : Nat) (mwn : Nat) (mma : Nat) (mwi : Nat) (mnu : Nat) (mmv : Nat) (c_wo : ClassId) (c_lu : ClassId) (w_wo : Nat → Int32) (w_lu : Nat → Int32) (ln : Int32) (bs : Int32) (tk : Int32) (lw : Int32) (li : Int32) (a1 : Int32) (a2 : Int32) (a3 : Int32) (sz : Nat) (b_ln : (0 : Int) ≤ ln.toInt ∧ ln.toInt ≤ 12) (b_bs : (0 : Int) ≤ bs.toInt ∧ bs.toInt ≤ 16) (b_tk : (0 : Int) ≤ tk.toInt ∧ tk.toInt ≤ 20000) (b_lw : (0 : Int) ≤ lw.toInt ∧ lw.toInt ≤ 9) (hw0 : w_wo 0 = ln) (hw1 : w_wo 1 = bs) (hw2 : w_wo 2 = tk) (hw3 : w_wo 3 = lw) (hw4 : w_wo 4 = li) (hwz : (ln.toInt = 0 ∧ bs.toInt = 0 ∧ tk.toInt = 0 ∧ lw.toInt = 0) ∨ (1 ≤ ln.toInt ∧ 2 ≤ bs.toInt ∧ 1 ≤ tk.toInt)) : Met l yX10_first uX10_first ({ frames := 3, cells := 0, slots := 0, locals := 69 }) (va_Pc [.ref o0, .int a1, .int a2, .int a3] (hw (dC, dI) vwCl [(o0, .inr (8, [.int x_th, .ref mwo, .ref mim, .ref mhi, .ref mlu, .ref mtp, .int x_td, .ref mfv, .int x_sz, .int x_at, .int x_fr, .int x_to, .int x_va, .int x_fk, .int x_fp, .ref mfr, .ref mwt, .int x_wt, .int x_op, .int x_jo, .ref mfg, .ref mpl, .long x_dr, .ref mtm, .ref mfa, .ref mqu, .ref mmo, .ref mwy, .ref mwn, .ref mma, .ref mwi, .ref mnu, .ref mmv])), (mwo, .inl (c_wo, 1875, .inl w_wo)), (mlu, .inl (c_lu, 20000, .inl w_lu))] [(c_wo, .int), (c_lu, .int)] sz)) (va_Qi (fun (r : Int32) (_ : Unit) => ((-2 : Int) ≤ r.toInt ∧ r.toInt ≤ 60)) (fun (_ : Unit) t => ∃ (o0_ : Int64), va_P (dC, dI) vwCl [(o0, .inr (8, [.int x_th, .ref mwo, .ref mim, .ref mhi, .ref mlu, .ref mtp, .int x_td, .ref mfv, .int x_sz, .int x_at, .int x_fr, .int x_to, .int x_va, .int x_fk, .int x_fp, .ref mfr, .ref mwt, .int x_wt, .int x_op, .int x_jo, .ref mfg, .ref mpl, .long o0_, .ref mtm, .ref mfa, .ref mqu, .ref mmo, .ref mwy, .ref mwn, .ref mma, .ref mwi, .ref mnu, .ref mmv])), (mwo, .inl (c_wo, 1875, .inl w_wo)), (mlu, .inl (c_lu, 20000, .inl w_lu))] t.heap ∧ va_K (dC, dI) vwCl [(c_wo, .int), (c_lu, .int)] t ∧ va_D (va_A [(o0, .inr (8, [.int x_th, .ref mwo, .ref mim, .ref mhi, .ref mlu, .ref mtp, .int x_td, .ref mfv, .int x_sz, .int x_at, .int x_fr, .int x_to, .int x_va, .int x_fk, .int x_fp, .ref mfr, .ref mwt, .int x_wt, .int x_op, .int x_jo, .ref mfg, .ref mpl, .long x_dr, .ref mtm, .ref mfa, .ref mqu, .ref mmo, .ref mwy, .ref mwn, .ref mma, .ref mwi, .ref mnu, .ref mmv])), (mwo, .inl (c_wo, 1875, .inl w_wo)), (mlu, .inl (c_lu, 20000, .inl w_lu))] sz) [(o0, .inr (8, [.int x_th, .ref mwo, .ref mim, .ref mhi, .ref mlu, .ref mtp, .int x_td, .ref mfv, .int x_sz, .int x_at, .int x_fr, .int x_to, .int x_va, .int x_fk, .int x_fp, .ref mfr, .ref mwt, .int x_wt, .int x_op, .int x_jo, .ref mfg, .ref mpl, .long o0_, .ref mtm, .ref mfa, .ref mqu, .ref mmo, .ref mwy, .ref mwn, .ref mma, .ref mwi, .ref mnu, .ref mmv])), (mwo, .inl (c_wo, 1875, .inl w_wo)), (mlu, .inl (c_lu, 20000, .inl w_lu))]) (va_A [(o0, .inr (8, [.int x_th, .ref mwo, .ref mim, .ref mhi, .ref mlu, .ref mtp, .int x_td, .ref mfv, .int x_sz, .int x_at, .int x_fr, .int x_to, .int x_va, .int x_fk, .int x_fp, .ref mfr, .ref mwt, .int x_wt, .int x_op, .int x_jo, .ref mfg, .ref mpl, .long x_dr, .ref mtm, .ref mfa, .ref mqu, .ref mmo, .ref mwy, .ref mwn, .ref mma, .ref mwi, .ref mnu, .ref mmv])), (mwo, .inl (c_wo, 1875, .inl w_wo)), (mlu, .inl (c_lu, 20000, .inl w_lu))] sz)) 0 0 (va_A [(o0, .inr (8, [.int x_th, .ref mwo, .ref mim, .ref mhi, .ref mlu, .ref mtp, .int x_td, .ref mfv, .int x_sz, .int x_at, .int x_fr, .int x_to, .int x_va, .int x_fk, .int x_fp, .ref mfr, .ref mwt, .int x_wt, .int x_op, .int x_jo, .ref mfg, .ref mpl, .long x_dr, .ref mtm, .ref mfa, .ref mqu, .ref mmo, .ref mwy, .ref mwn, .ref mma, .ref mwi, .ref mnu, .ref mmv])), (mwo, .inl (c_wo, 1875, .inl w_wo)), (mlu, .inl (c_lu, 20000, .inl w_lu))] sz) := by
  refine Met.ofW (cc := cX10_first) (maxL := 5) (ret := (some .int)) (by decide) rfl ?_
  intro p e s m args below meth c s₁ B hml hv
  obtain ⟨rfl, hsz, hP, hK, hD0, hN⟩ := hv
  have hx := B.exec
  have hb := B.bytes
  have hr := B.returns
  have hts := atoms_spec (ws := uX10_first) B.pre
  have hown : s.vm.findClass RX10 = some m.cls := findClass_of_methodNamed B.named
  have hlocks := B.notSynchronized
  subst hsz
  have hD := hD0.self (sz := s.heap.size)
  generalize hAe : va_A [(o0, .inr (8, [.int x_th, .ref mwo, .ref mim, .ref mhi, .ref mlu, .ref mtp, .int x_td, .ref mfv, .int x_sz, .int x_at, .int x_fr, .int x_to, .int x_va, .int x_fk, .int x_fp, .ref mfr, .ref mwt, .int x_wt, .int x_op, .int x_jo, .ref mfg, .ref mpl, .long x_dr, .ref mtm, .ref mfa, .ref mqu, .ref mmo, .ref mwy, .ref mwn, .ref mma, .ref mwi, .ref mnu, .ref mmv])), (mwo, .inl (c_wo, 1875, .inl w_wo)), (mlu, .inl (c_lu, 20000, .inl w_lu))] s.heap.size = A at hD ⊢
  have hA : ∀ q : Nat, s.heap.size ≤ q → A q := fun q h => by rw [← hAe]; exact Or.inr h
  have hS : va_S A s.heap s.heap [] := va_S.rf
  have hP : va_P (dC, dI) vwCl [(o0, .inr (8, [.int x_th, .ref mwo, .ref mim, .ref mhi, .ref mlu, .ref mtp, .int x_td, .ref mfv, .int x_sz, .int x_at, .int x_fr, .int x_to, .int x_va, .int x_fk, .int x_fp, .ref mfr, .ref mwt, .int x_wt, .int x_op, .int x_jo, .ref mfg, .ref mpl, .long x_dr, .ref mtm, .ref mfa, .ref mqu, .ref mmo, .ref mwy, .ref mwn, .ref mma, .ref mwi, .ref mnu, .ref mmv])), (mwo, .inl (c_wo, 1875, .inl w_wo)), (mlu, .inl (c_lu, 20000, .inl w_lu))] s.heap := hP
  have hl := lv_entry ([.ref o0, .int a1, .int a2, .int a3]) (n := 5) (Nat.le_of_ble_eq_true rfl)
  rw [lg_entry_eq]
  generalize (lg_sl ([.ref o0, .int a1, .int a2, .int a3]) ++ List.replicate (5 - (lg_sl ([.ref o0, .int a1, .int a2, .int a3])).length) Slot.unset).toArray = ls at hl ⊢
  have hl : lv_has ls 5 [(0, .ref o0), (1, .int a1), (2, .int a2), (3, .int a3)] := hl
  refine lv_aload_n hx hb dX10_first_0 rfl (lv_at hl 0 rfl) ?_
  refine lv_iload_n hx hb dX10_first_1 rfl (lv_at hl 1 rfl) ?_
  refine lv_iload_n hx hb dX10_first_2 rfl (lv_at hl 2 rfl) ?_
  refine lv_iload_n hx hb dX10_first_3 rfl (lv_at hl 3 rfl) ?_
  refine vp_callSi (W.runV (As := [.int a1, .int a2, .int a3]) (rest := []) ⟨hx, hb, hml, hown, hts⟩ (kX10_isSale l dC dI o0 x_th mwo mim mhi mlu mtp x_td mfv x_sz x_at x_fr x_to x_va x_fk x_fp mfr mwt x_wt x_op x_jo mfg mpl x_dr mtm mfa mqu mmo mwy mwn mma mwi mnu mmv c_wo w_wo ln bs tk lw li a1 a2 a3 b_ln b_bs b_tk b_lw (hw0) (hw1) (hw2) (hw3) (hw4) (hwz)) (cwV 3 hts gX10_first__X10_isSale_V410 rfl rfl rfl (by decide +kernel) ⟨lel 3 3 rfl, lel 69 69 rfl⟩) ⟨pw_fb, va_recv hK hP (ci := 8) (q0 := 0) rfl rfl, (pw_use hP hK hN [0, 1] rfl [0] rfl)⟩ rfl rfl hl.1 rfl (lv_room (Nat.le_of_ble_eq_true rfl)) dX10_first_4 ⟨lel 0 0 rfl, lel 0 0 rfl⟩) (fun r_79 h_r_79 => ?_)
  obtain ⟨b_r_79, nz_r_79⟩ := h_r_79
  have b_r_79 : (0 : Int) ≤ r_79.toInt ∧ r_79.toInt ≤ 1 := b_r_79
  refine lv_if_ne (tgt := 13) hx hb dX10_first_7 (by decide) (fun c_80 => ?_) (fun c_80 => ?_)
  ·
    have n_c_80 : (r_79.toInt : Int) ≠ 0 := c_ne rfl (by decide) c_80
    have b_r_79 : (1 : Int) ≤ r_79.toInt ∧ r_79.toInt ≤ 1 := r_ne1 b_r_79 (by decide : (0 : Int) ≤ (0 : Int32).toInt ∧ (0 : Int32).toInt ≤ 0) n_c_80 (by decide)
    obtain ⟨b_a1, b_a2, b_a3, g_81⟩ := nz_r_79 c_80
    refine lv_aload_n hx hb dX10_first_13 rfl (lv_at hl 0 rfl) ?_
    refine lv_iload_n hx hb dX10_first_14 rfl (lv_at hl 2 rfl) ?_
    obtain ⟨z_82, e_z_82⟩ : ∃ y : Int64, y = a2.toInt64 := ⟨_, rfl⟩
    refine lv_i2l (v := z_82) hx hb dX10_first_15 e_z_82.symm ?_
    obtain ⟨q_z_82, b_z_82⟩ := ti_i2l e_z_82 b_a2
    refine va_put (D := (dC, dI)) (ci := 8) (v := .long z_82) (ty := .long) (C := RX10) (T := TX10) (N := 33) hx hb hts iX10_first_X10 tyX10 tyX10_ok nmX10 hown hK hP hD hS 0 rfl rfl 22 (by decide) (hts (.fieldLink RX10 392 "LuckyTicketModel" "drawn" "J") (List.mem_of_getElem? (i := 19) rfl)) (fun _ h9 => h9) rfl (by decide +kernel) rfl rfl (Nat.le_of_ble_eq_true rfl) dX10_first_16 (fun H locs hP hD hS => ?_)
    have hP : va_P (dC, dI) vwCl [(o0, .inr (8, [.int x_th, .ref mwo, .ref mim, .ref mhi, .ref mlu, .ref mtp, .int x_td, .ref mfv, .int x_sz, .int x_at, .int x_fr, .int x_to, .int x_va, .int x_fk, .int x_fp, .ref mfr, .ref mwt, .int x_wt, .int x_op, .int x_jo, .ref mfg, .ref mpl, .long z_82, .ref mtm, .ref mfa, .ref mqu, .ref mmo, .ref mwy, .ref mwn, .ref mma, .ref mwi, .ref mnu, .ref mmv])), (mwo, .inl (c_wo, 1875, .inl w_wo)), (mlu, .inl (c_lu, 20000, .inl w_lu))] H := hP
    have hD : va_D A [(o0, .inr (8, [.int x_th, .ref mwo, .ref mim, .ref mhi, .ref mlu, .ref mtp, .int x_td, .ref mfv, .int x_sz, .int x_at, .int x_fr, .int x_to, .int x_va, .int x_fk, .int x_fp, .ref mfr, .ref mwt, .int x_wt, .int x_op, .int x_jo, .ref mfg, .ref mpl, .long z_82, .ref mtm, .ref mfa, .ref mqu, .ref mmo, .ref mwy, .ref mwn, .ref mma, .ref mwi, .ref mnu, .ref mmv])), (mwo, .inl (c_wo, 1875, .inl w_wo)), (mlu, .inl (c_lu, 20000, .inl w_lu))] := hD
    refine lv_iconst (v := 1) hx hb dX10_first_19 (by decide) ?_
    refine lv_istore (lv' := [(4, .int 1), (0, .ref o0), (1, .int a1), (2, .int a2), (3, .int a3)]) hx hb dX10_first_20 hl (by decide) rfl (fun ls hl => ?_)
    refine loopW (σ := Int32 × Int64) (fun v => (61 - v.1.toInt).toNat) (fun v H locs ls => ((1 : Int) ≤ v.1.toInt ∧ v.1.toInt ≤ 61) ∧ ((0 : Int) ≤ v.2.toInt ∧ v.2.toInt ≤ 2147483647) ∧ va_P (dC, dI) vwCl [(o0, .inr (8, [.int x_th, .ref mwo, .ref mim, .ref mhi, .ref mlu, .ref mtp, .int x_td, .ref mfv, .int x_sz, .int x_at, .int x_fr, .int x_to, .int x_va, .int x_fk, .int x_fp, .ref mfr, .ref mwt, .int x_wt, .int x_op, .int x_jo, .ref mfg, .ref mpl, .long v.2, .ref mtm, .ref mfa, .ref mqu, .ref mmo, .ref mwy, .ref mwn, .ref mma, .ref mwi, .ref mnu, .ref mmv])), (mwo, .inl (c_wo, 1875, .inl w_wo)), (mlu, .inl (c_lu, 20000, .inl w_lu))] H ∧ va_D A [(o0, .inr (8, [.int x_th, .ref mwo, .ref mim, .ref mhi, .ref mlu, .ref mtp, .int x_td, .ref mfv, .int x_sz, .int x_at, .int x_fr, .int x_to, .int x_va, .int x_fk, .int x_fp, .ref mfr, .ref mwt, .int x_wt, .int x_op, .int x_jo, .ref mfg, .ref mpl, .long v.2, .ref mtm, .ref mfa, .ref mqu, .ref mmo, .ref mwy, .ref mwn, .ref mma, .ref mwi, .ref mnu, .ref mmv])), (mwo, .inl (c_wo, 1875, .inl w_wo)), (mlu, .inl (c_lu, 20000, .inl w_lu))] ∧ va_S A s.heap H locs ∧ lv_has ls 5 [(4, .int v.1), (0, .ref o0), (1, .int a1), (2, .int a2), (3, .int a3)]) (fun v H locs ls hI ih_22_148 => ?_) ((1 : Int32), z_82) ⟨(show (1 : Int) ≤ (1 : Int32).toInt ∧ (1 : Int32).toInt ≤ 61 from (rg_w (by decide : (1 : Int) ≤ (1 : Int32).toInt ∧ (1 : Int32).toInt ≤ 1) (by decide) (by decide))), (show (0 : Int) ≤ z_82.toInt ∧ z_82.toInt ≤ 2147483647 from (rg_w b_z_82 (by decide) (by decide))), hP, hD, hS, lv_sub hl [0, 1, 2, 3, 4] rfl⟩
    obtain ⟨y_91, y_92⟩ := v
    obtain ⟨b_y_91, b_y_92, hP, hD, hS, hl⟩ := hI
    have b_y_91 : (1 : Int) ≤ y_91.toInt ∧ y_91.toInt ≤ 61 := b_y_91
    have b_y_92 : (0 : Int) ≤ y_92.toInt ∧ y_92.toInt ≤ 2147483647 := b_y_92
    have hP : va_P (dC, dI) vwCl [(o0, .inr (8, [.int x_th, .ref mwo, .ref mim, .ref mhi, .ref mlu, .ref mtp, .int x_td, .ref mfv, .int x_sz, .int x_at, .int x_fr, .int x_to, .int x_va, .int x_fk, .int x_fp, .ref mfr, .ref mwt, .int x_wt, .int x_op, .int x_jo, .ref mfg, .ref mpl, .long y_92, .ref mtm, .ref mfa, .ref mqu, .ref mmo, .ref mwy, .ref mwn, .ref mma, .ref mwi, .ref mnu, .ref mmv])), (mwo, .inl (c_wo, 1875, .inl w_wo)), (mlu, .inl (c_lu, 20000, .inl w_lu))] H := hP
    have hD : va_D A [(o0, .inr (8, [.int x_th, .ref mwo, .ref mim, .ref mhi, .ref mlu, .ref mtp, .int x_td, .ref mfv, .int x_sz, .int x_at, .int x_fr, .int x_to, .int x_va, .int x_fk, .int x_fp, .ref mfr, .ref mwt, .int x_wt, .int x_op, .int x_jo, .ref mfg, .ref mpl, .long y_92, .ref mtm, .ref mfa, .ref mqu, .ref mmo, .ref mwy, .ref mwn, .ref mma, .ref mwi, .ref mnu, .ref mmv])), (mwo, .inl (c_wo, 1875, .inl w_wo)), (mlu, .inl (c_lu, 20000, .inl w_lu))] := hD
    have hl : lv_has ls 5 [(4, .int y_91), (0, .ref o0), (1, .int a1), (2, .int a2), (3, .int a3)] := hl
    refine lv_iload hx hb dX10_first_22 (lv_at hl 0 rfl) ?_
    refine lv_iload_n hx hb dX10_first_24 rfl (lv_at hl 4 rfl) ?_
    refine lv_icmp_gt (tgt := 55) hx hb dX10_first_25 (by decide) (fun c_149 => ?_) (fun c_149 => ?_)
    ·
      have n_c_149 : (a3.toInt : Int) < y_91.toInt := c_gt rfl rfl c_149
      have b_y_91 : (2 : Int) ≤ y_91.toInt ∧ y_91.toInt ≤ 61 := r_lt2 b_a3 b_y_91 n_c_149 (by decide)
      refine lv_iconst (v := (-1)) hx hb dX10_first_55 (by decide) ?_
      have hP9 := hP.sub (ws' := [(o0, .inr (8, [.int x_th, .ref mwo, .ref mim, .ref mhi, .ref mlu, .ref mtp, .int x_td, .ref mfv, .int x_sz, .int x_at, .int x_fr, .int x_to, .int x_va, .int x_fk, .int x_fp, .ref mfr, .ref mwt, .int x_wt, .int x_op, .int x_jo, .ref mfg, .ref mpl, .long y_92, .ref mtm, .ref mfa, .ref mqu, .ref mmo, .ref mwy, .ref mwn, .ref mma, .ref mwi, .ref mnu, .ref mmv])), (mwo, .inl (c_wo, 1875, .inl w_wo)), (mlu, .inl (c_lu, 20000, .inl w_lu))]) [0, 1, 2] rfl
      have hD9 := hD.sub (ws' := [(o0, .inr (8, [.int x_th, .ref mwo, .ref mim, .ref mhi, .ref mlu, .ref mtp, .int x_td, .ref mfv, .int x_sz, .int x_at, .int x_fr, .int x_to, .int x_va, .int x_fk, .int x_fp, .ref mfr, .ref mwt, .int x_wt, .int x_op, .int x_jo, .ref mfg, .ref mpl, .long y_92, .ref mtm, .ref mfa, .ref mqu, .ref mmo, .ref mwy, .ref mwn, .ref mma, .ref mwi, .ref mnu, .ref mmv])), (mwo, .inl (c_wo, 1875, .inl w_wo)), (mlu, .inl (c_lu, 20000, .inl w_lu))]) [0, 1, 2] (by decide) rfl
      have hK9 := hK.sub (tys' := [(c_wo, .int), (c_lu, .int)]) [0, 1] rfl
      exact W.iret (v := (-1)) hx hb hr (fun t ht hW => ⟨⟨(-1), (), rfl, (rg_w (by decide : (-1 : Int) ≤ ((-1) : Int32).toInt ∧ ((-1) : Int32).toInt ≤ -1) (by decide) (by decide)), y_92, by rw [ht]; exact hP9, va_K.moved hW.alike hK9, hD9⟩, hS.F ht⟩) hS.2.2 dX10_first_56
    ·
      have n_c_149 : (y_91.toInt : Int) ≤ a3.toInt := c_ngt rfl rfl c_149
      have b_y_91 : (1 : Int) ≤ y_91.toInt ∧ y_91.toInt ≤ 60 := r_le1 b_y_91 b_a3 n_c_149 (by decide)
      refine lv_aload_n hx hb dX10_first_28 rfl (lv_at hl 1 rfl) ?_
      refine lv_iload_n hx hb dX10_first_29 rfl (lv_at hl 2 rfl) ?_
      refine lv_aload_n hx hb dX10_first_30 rfl (lv_at hl 1 rfl) ?_
      refine lv_aload_n hx hb dX10_first_31 rfl (lv_at hl 1 rfl) ?_
      refine va_get (D := (dC, dI)) (ci := 8) (v := .ref mwo) (C := RX10) (T := TX10) (N := 33) hx hb hts iX10_first_X10 hown hK hP 0 rfl rfl 1 (by decide) (hts (.fieldLink RX10 9 "LuckyTicketModel" "world" "[I") (List.mem_of_getElem? (i := 10) rfl)) (fun _ h9 => h9) rfl dX10_first_32 ?_
      refine lv_iconst (v := 2) hx hb dX10_first_35 (by decide) ?_
      refine va_iald hx hb hK hP 1 0 rfl rfl (vp_in_b (by decide : (2 : Int) ≤ (2 : Int32).toInt ∧ (2 : Int32).toInt ≤ 2) (by decide) (by decide)) dX10_first_36 ?_
      refine lv_topi (fun z_150 e_z_150 => ?_)
      obtain rfl : z_150 = tk := e_z_150.trans hw2
      have hFc := va_free (wc := [(o0, .inr (8, [.int x_th, .ref mwo, .ref mim, .ref mhi, .ref mlu, .ref mtp, .int x_td, .ref mfv, .int x_sz, .int x_at, .int x_fr, .int x_to, .int x_va, .int x_fk, .int x_fp, .ref mfr, .ref mwt, .int x_wt, .int x_op, .int x_jo, .ref mfg, .ref mpl, .long y_92, .ref mtm, .ref mfa, .ref mqu, .ref mmo, .ref mwy, .ref mwn, .ref mma, .ref mwi, .ref mnu, .ref mmv]))]) hD hS hA [0] rfl
      refine va_calli (va_runV (As := [.int tk]) (rest := [.int a1, .ref o0]) ⟨hx, hb, hml, hown, hts⟩ (kX10_draw l dC dI o0 x_th mwo mim mhi mlu mtp x_td mfv x_sz x_at x_fr x_to x_va x_fk x_fp mfr mwt x_wt x_op x_jo mfg mpl y_92 mtm mfa mqu mmo mwy mwn mma mwi mnu mmv tk (H.size) b_y_92 ⟨by omega, by omega⟩) (cwV 1 hts gX10_first__X10_draw_V407 rfl rfl rfl (by decide +kernel) ⟨lel 1 3 rfl, lel 21 69 rfl⟩) ⟨hw_fb, va_recv hK hP (ci := 8) (q0 := 0) rfl rfl, (hw_use hP hD hK hN [0] rfl (by decide) rfl [] rfl)⟩ rfl rfl hl.1 rfl (lv_room (Nat.le_of_ble_eq_true rfl)) dX10_first_37 ⟨lel 0 0 rfl, lel 0 0 rfl⟩) hS (fun q _ h => hFc q h) hFc (fun r_151 u_152 t H1 locs ht hvm hw_r_151 hB hz1 hk1 hS => ?_)
      obtain ⟨o0_153, b_o0_153, hP1, hK1, hD1⟩ := hB
      rw [ht] at hP1
      have hK1 := va_K.moved hvm.symm hK1
      obtain ⟨hP, hD⟩ := va_join (wr := [(mwo, .inl (c_wo, 1875, .inl w_wo)), (mlu, .inl (c_lu, 20000, .inl w_lu))]) (w1 := [(o0, .inr (8, [.int x_th, .ref mwo, .ref mim, .ref mhi, .ref mlu, .ref mtp, .int x_td, .ref mfv, .int x_sz, .int x_at, .int x_fr, .int x_to, .int x_va, .int x_fk, .int x_fp, .ref mfr, .ref mwt, .int x_wt, .int x_op, .int x_jo, .ref mfg, .ref mpl, .long o0_153, .ref mtm, .ref mfa, .ref mqu, .ref mmo, .ref mwy, .ref mwn, .ref mma, .ref mwi, .ref mnu, .ref mmv]))]) hP hD [0] [1, 2] rfl rfl (by decide) (by decide) hk1 hFc hP1 hD1
      have hK := (hK.sub (tys' := [(c_wo, .int), (c_lu, .int)]) [0, 1] rfl).app hK1
      generalize H1 = H at hP hS ⊢
      have hP := hP.sub (ws' := [(o0, .inr (8, [.int x_th, .ref mwo, .ref mim, .ref mhi, .ref mlu, .ref mtp, .int x_td, .ref mfv, .int x_sz, .int x_at, .int x_fr, .int x_to, .int x_va, .int x_fk, .int x_fp, .ref mfr, .ref mwt, .int x_wt, .int x_op, .int x_jo, .ref mfg, .ref mpl, .long o0_153, .ref mtm, .ref mfa, .ref mqu, .ref mmo, .ref mwy, .ref mwn, .ref mma, .ref mwi, .ref mnu, .ref mmv])), (mwo, .inl (c_wo, 1875, .inl w_wo)), (mlu, .inl (c_lu, 20000, .inl w_lu))]) [2, 0, 1] rfl
      have hD := hD.sub (ws' := [(o0, .inr (8, [.int x_th, .ref mwo, .ref mim, .ref mhi, .ref mlu, .ref mtp, .int x_td, .ref mfv, .int x_sz, .int x_at, .int x_fr, .int x_to, .int x_va, .int x_fk, .int x_fp, .ref mfr, .ref mwt, .int x_wt, .int x_op, .int x_jo, .ref mfg, .ref mpl, .long o0_153, .ref mtm, .ref mfa, .ref mqu, .ref mmo, .ref mwy, .ref mwn, .ref mma, .ref mwi, .ref mnu, .ref mmv])), (mwo, .inl (c_wo, 1875, .inl w_wo)), (mlu, .inl (c_lu, 20000, .inl w_lu))]) [2, 0, 1] (by decide) rfl
      have hP : va_P (dC, dI) vwCl [(o0, .inr (8, [.int x_th, .ref mwo, .ref mim, .ref mhi, .ref mlu, .ref mtp, .int x_td, .ref mfv, .int x_sz, .int x_at, .int x_fr, .int x_to, .int x_va, .int x_fk, .int x_fp, .ref mfr, .ref mwt, .int x_wt, .int x_op, .int x_jo, .ref mfg, .ref mpl, .long o0_153, .ref mtm, .ref mfa, .ref mqu, .ref mmo, .ref mwy, .ref mwn, .ref mma, .ref mwi, .ref mnu, .ref mmv])), (mwo, .inl (c_wo, 1875, .inl w_wo)), (mlu, .inl (c_lu, 20000, .inl w_lu))] H := hP
      have hD : va_D A [(o0, .inr (8, [.int x_th, .ref mwo, .ref mim, .ref mhi, .ref mlu, .ref mtp, .int x_td, .ref mfv, .int x_sz, .int x_at, .int x_fr, .int x_to, .int x_va, .int x_fk, .int x_fp, .ref mfr, .ref mwt, .int x_wt, .int x_op, .int x_jo, .ref mfg, .ref mpl, .long o0_153, .ref mtm, .ref mfa, .ref mqu, .ref mmo, .ref mwy, .ref mwn, .ref mma, .ref mwi, .ref mnu, .ref mmv])), (mwo, .inl (c_wo, 1875, .inl w_wo)), (mlu, .inl (c_lu, 20000, .inl w_lu))] := hD
      have hK : va_K (dC, dI) vwCl [(c_wo, .int), (c_lu, .int)] s := hK
      obtain ⟨b_r_151, pr_r_151⟩ := hw_r_151
      have b_r_151 : (0 : Int) ≤ r_151.toInt ∧ r_151.toInt ≤ 19999 := b_r_151
      refine vp_callSi (W.runV (As := [.int a1, .int r_151]) (rest := []) ⟨hx, hb, hml, hown, hts⟩ (kX10_isLucky l dC dI o0 x_th mwo mim mhi mlu mtp x_td mfv x_sz x_at x_fr x_to x_va x_fk x_fp mfr mwt x_wt x_op x_jo mfg mpl o0_153 mtm mfa mqu mmo mwy mwn mma mwi mnu mmv c_wo c_lu w_wo w_lu ln bs tk lw li a1 r_151 b_ln b_bs b_tk b_lw b_r_151 (hw0) (hw1) (hw2) (hw3) (hw4) (hwz)) (cwV 2 hts gX10_first__X10_isLucky_V316 rfl rfl rfl (by decide +kernel) ⟨lel 1 3 rfl, lel 22 69 rfl⟩) ⟨pw_fb, va_recv hK hP (ci := 8) (q0 := 0) rfl rfl, (pw_use hP hK hN [0, 1, 2] rfl [0, 1] rfl)⟩ rfl rfl hl.1 rfl (lv_room (Nat.le_of_ble_eq_true rfl)) dX10_first_40 ⟨lel 0 0 rfl, lel 0 0 rfl⟩) (fun r_154 h_r_154 => ?_)
      have b_r_154 := h_r_154
      have b_r_154 : (0 : Int) ≤ r_154.toInt ∧ r_154.toInt ≤ 1 := b_r_154
      refine lv_if_eq (tgt := 49) hx hb dX10_first_43 (by decide) (fun c_155 => ?_) (fun c_155 => ?_)
      ·
        have n_c_155 : (r_154.toInt : Int) = 0 := c_eq rfl (by decide) c_155
        have b_r_154 : (0 : Int) ≤ r_154.toInt ∧ r_154.toInt ≤ 0 := r_eq1 b_r_154 (by decide : (0 : Int) ≤ (0 : Int32).toInt ∧ (0 : Int32).toInt ≤ 0) n_c_155 (by decide)
        obtain ⟨z_156, e_z_156⟩ : ∃ y : Int32, y = y_91 + 1 := ⟨_, rfl⟩
        refine lv_iinc (v := z_156) (lv' := [(4, .int z_156), (0, .ref o0), (1, .int a1), (2, .int a2), (3, .int a3)]) hx hb dX10_first_49 hl (k := 0) rfl (by rw [e_z_156]; rfl) (by decide) rfl (fun ls hl => ?_)
        obtain ⟨q_z_156, b_z_156⟩ := ti_add (lo := 2) (hi := 61) e_z_156 rfl (by decide : (1 : Int32).toInt = 1) b_y_91 (by decide : (1 : Int) ≤ (1 : Int32).toInt ∧ (1 : Int32).toInt ≤ 1) (by decide)
        refine lv_goto (tgt := 22) hx hb dX10_first_52 (by decide) ?_
        exact ih_22_148 (z_156, o0_153) _ _ _ ⟨(show (1 : Int) ≤ z_156.toInt ∧ z_156.toInt ≤ 61 from (rg_w b_z_156 (by decide) (by decide))), (show (0 : Int) ≤ o0_153.toInt ∧ o0_153.toInt ≤ 2147483647 from b_o0_153), hP, hD, hS, lv_sub hl [0, 1, 2, 3, 4] rfl⟩ (show (61 - z_156.toInt).toNat < (61 - y_91.toInt).toNat by omega)
      ·
        have n_c_155 : (r_154.toInt : Int) ≠ 0 := c_ne rfl (by decide) c_155
        have b_r_154 : (1 : Int) ≤ r_154.toInt ∧ r_154.toInt ≤ 1 := r_ne1 b_r_154 (by decide : (0 : Int) ≤ (0 : Int32).toInt ∧ (0 : Int32).toInt ≤ 0) n_c_155 (by decide)
        refine lv_iload hx hb dX10_first_46 (lv_at hl 0 rfl) ?_
        have hP9 := hP.sub (ws' := [(o0, .inr (8, [.int x_th, .ref mwo, .ref mim, .ref mhi, .ref mlu, .ref mtp, .int x_td, .ref mfv, .int x_sz, .int x_at, .int x_fr, .int x_to, .int x_va, .int x_fk, .int x_fp, .ref mfr, .ref mwt, .int x_wt, .int x_op, .int x_jo, .ref mfg, .ref mpl, .long o0_153, .ref mtm, .ref mfa, .ref mqu, .ref mmo, .ref mwy, .ref mwn, .ref mma, .ref mwi, .ref mnu, .ref mmv])), (mwo, .inl (c_wo, 1875, .inl w_wo)), (mlu, .inl (c_lu, 20000, .inl w_lu))]) [0, 1, 2] rfl
        have hD9 := hD.sub (ws' := [(o0, .inr (8, [.int x_th, .ref mwo, .ref mim, .ref mhi, .ref mlu, .ref mtp, .int x_td, .ref mfv, .int x_sz, .int x_at, .int x_fr, .int x_to, .int x_va, .int x_fk, .int x_fp, .ref mfr, .ref mwt, .int x_wt, .int x_op, .int x_jo, .ref mfg, .ref mpl, .long o0_153, .ref mtm, .ref mfa, .ref mqu, .ref mmo, .ref mwy, .ref mwn, .ref mma, .ref mwi, .ref mnu, .ref mmv])), (mwo, .inl (c_wo, 1875, .inl w_wo)), (mlu, .inl (c_lu, 20000, .inl w_lu))]) [0, 1, 2] (by decide) rfl
        have hK9 := hK.sub (tys' := [(c_wo, .int), (c_lu, .int)]) [0, 1] rfl
        exact W.iret (v := y_91) hx hb hr (fun t ht hW => ⟨⟨y_91, (), rfl, (rg_w b_y_91 (by decide) (by decide)), o0_153, by rw [ht]; exact hP9, va_K.moved hW.alike hK9, hD9⟩, hS.F ht⟩) hS.2.2 dX10_first_48
  ·
    have n_c_80 : (r_79.toInt : Int) = 0 := c_eq rfl (by decide) c_80
    have b_r_79 : (0 : Int) ≤ r_79.toInt ∧ r_79.toInt ≤ 0 := r_eq1 b_r_79 (by decide : (0 : Int) ≤ (0 : Int32).toInt ∧ (0 : Int32).toInt ≤ 0) n_c_80 (by decide)
    refine lv_bipush (v := (-2)) hx hb dX10_first_10 (by decide) ?_
    have hP9 := hP.sub (ws' := [(o0, .inr (8, [.int x_th, .ref mwo, .ref mim, .ref mhi, .ref mlu, .ref mtp, .int x_td, .ref mfv, .int x_sz, .int x_at, .int x_fr, .int x_to, .int x_va, .int x_fk, .int x_fp, .ref mfr, .ref mwt, .int x_wt, .int x_op, .int x_jo, .ref mfg, .ref mpl, .long x_dr, .ref mtm, .ref mfa, .ref mqu, .ref mmo, .ref mwy, .ref mwn, .ref mma, .ref mwi, .ref mnu, .ref mmv])), (mwo, .inl (c_wo, 1875, .inl w_wo)), (mlu, .inl (c_lu, 20000, .inl w_lu))]) [0, 1, 2] rfl
    have hD9 := hD.sub (ws' := [(o0, .inr (8, [.int x_th, .ref mwo, .ref mim, .ref mhi, .ref mlu, .ref mtp, .int x_td, .ref mfv, .int x_sz, .int x_at, .int x_fr, .int x_to, .int x_va, .int x_fk, .int x_fp, .ref mfr, .ref mwt, .int x_wt, .int x_op, .int x_jo, .ref mfg, .ref mpl, .long x_dr, .ref mtm, .ref mfa, .ref mqu, .ref mmo, .ref mwy, .ref mwn, .ref mma, .ref mwi, .ref mnu, .ref mmv])), (mwo, .inl (c_wo, 1875, .inl w_wo)), (mlu, .inl (c_lu, 20000, .inl w_lu))]) [0, 1, 2] (by decide) rfl
    have hK9 := hK.sub (tys' := [(c_wo, .int), (c_lu, .int)]) [0, 1] rfl
    exact W.iret (v := (-2)) hx hb hr (fun t ht hW => ⟨⟨(-2), (), rfl, (rg_w (by decide : (-2 : Int) ≤ ((-2) : Int32).toInt ∧ ((-2) : Int32).toInt ≤ -2) (by decide) (by decide)), x_dr, by rw [ht]; exact hP9, va_K.moved hW.alike hK9, hD9⟩, hS.F ht⟩) hS.2.2 dX10_first_12
theorem dX10_asksRow_0 : decode cX10_asksRow 0 = .ok (.iload_n 1, 1) := by decide +kernel
theorem dX10_asksRow_1 : decode cX10_asksRow 1 = .ok (.invokestatic 369, 3) := by decide +kernel
theorem dX10_asksRow_4 : decode cX10_asksRow 4 = .ok (.ifCond .eq 11, 3) := by decide +kernel
theorem dX10_asksRow_7 : decode cX10_asksRow 7 = .ok (.aload_n 0, 1) := by decide +kernel
theorem dX10_asksRow_8 : decode cX10_asksRow 8 = .ok (.iload_n 2, 1) := by decide +kernel
theorem dX10_asksRow_9 : decode cX10_asksRow 9 = .ok (.invokevirtual 89, 3) := by decide +kernel
theorem dX10_asksRow_12 : decode cX10_asksRow 12 = .ok (.ifCond .ne 6, 3) := by decide +kernel
theorem dX10_asksRow_15 : decode cX10_asksRow 15 = .ok (.bipush (-2), 2) := by decide +kernel
theorem dX10_asksRow_17 : decode cX10_asksRow 17 = .ok (.ireturn, 1) := by decide +kernel
theorem dX10_asksRow_18 : decode cX10_asksRow 18 = .ok (.aload_n 0, 1) := by decide +kernel
theorem dX10_asksRow_19 : decode cX10_asksRow 19 = .ok (.getfield 65, 3) := by decide +kernel
theorem dX10_asksRow_22 : decode cX10_asksRow 22 = .ok (.iload_n 1, 1) := by decide +kernel
theorem dX10_asksRow_23 : decode cX10_asksRow 23 = .ok (.iaload, 1) := by decide +kernel
theorem dX10_asksRow_24 : decode cX10_asksRow 24 = .ok (.iconst (-1), 1) := by decide +kernel
theorem dX10_asksRow_25 : decode cX10_asksRow 25 = .ok (.if_icmp .ne 8, 3) := by decide +kernel
theorem dX10_asksRow_28 : decode cX10_asksRow 28 = .ok (.bipush (-6), 2) := by decide +kernel
theorem dX10_asksRow_30 : decode cX10_asksRow 30 = .ok (.goto 4, 3) := by decide +kernel
theorem dX10_asksRow_33 : decode cX10_asksRow 33 = .ok (.iconst 0, 1) := by decide +kernel
theorem dX10_asksRow_34 : decode cX10_asksRow 34 = .ok (.ireturn, 1) := by decide +kernel
def uX10_asksRow : List Cond := .code yX10_asksRow cX10_asksRow 3 (some .int) :: ([.methodLink RX10 369 yX10_isSlot, .static yX10_isSlot, .initialized RX10, .code yX10_isSlot cX10_isSlot 1 (some .boolean), .constantLong RX10 375 (3), .methodLink RX10 82 yX10_in, .static yX10_in, .code yX10_in cX10_in 6 (some .boolean), .methodLink RX10 89 yX10_isLaw, .instanceMethod yX10_isLaw, .selects RX10 yX10_isLaw yX10_isLaw, .code yX10_isLaw cX10_isLaw 2 (some .boolean), .fieldLink RX10 9 "LuckyTicketModel" "world" "[I", .fieldLink RX10 65 "LuckyTicketModel" "many" "[I"] ++ wsX100)
theorem iX10_asksRow_X10 : ∀ w ∈ wsX100, w ∈ uX10_asksRow := fun _ h => List.mem_cons_of_mem _ (List.mem_append_right _ h)
set_option maxRecDepth 20000 in
theorem gX10_asksRow__X10_isSlot_S369 : GoodIn uX10_asksRow (va_wsS RX10 369 yX10_isSlot uX10_isSlot) := goodIn_p _ [4, 8] rfl (by decide +kernel)
set_option maxRecDepth 20000 in
theorem gX10_asksRow__X10_isLaw_V89 : GoodIn uX10_asksRow (wsV RX10 89 RX10 yX10_isLaw uX10_isLaw) := goodIn_p _ [12, 8] rfl (by decide +kernel)
set_option maxHeartbeats 4000000 in
set_option maxRecDepth 100000 in
theorem kX10_asksRow (l : Launch) (dC : Nat → ClassId) (dI : Nat → Nat → Nat) (o0 : Nat) (x_th : Int32) (mwo : Nat) (mim : Nat) (mhi : Nat) (mlu : Nat) (mtp : Nat) (x_td : Int32) (mfv : Nat) (x_sz : Int32) (x_at : Int32) (x_fr : Int32) (x_to : Int32) (x_va : Int32) (x_fk : Int32) (x_fp : Int32) (mfr : Nat) (mwt : Nat) (x_wt : Int32) (x_op : Int32) (x_jo : Int32) (mfg : Nat) (mpl : Nat) (x_dr : Int64) (mtm : Nat) (mfa : Nat) (mqu : Nat) (mmo : Nat) (mwy : Nat) (mwn : Nat) (mma : Nat) (mwi : Nat) (mnu : Nat) (mmv : Nat) (c_wo : ClassId) (c_ma : ClassId) (w_wo : Nat → Int32) (w_ma : Nat → Int32) (ln : Int32) (bs : Int32) (tk : Int32) (lw : Int32) (li : Int32) (a1 : Int32) (a2 : Int32) (b_ln : (0 : Int) ≤ ln.toInt ∧ ln.toInt ≤ 12) (b_bs : (0 : Int) ≤ bs.toInt ∧ bs.toInt ≤ 16) (b_tk : (0 : Int) ≤ tk.toInt ∧ tk.toInt ≤ 20000) (b_lw : (0 : Int) ≤ lw.toInt ∧ lw.toInt ≤ 9) (ha_mma : rg w_ma 4 (-1) 60) (hw0 : w_wo 0 = ln) (hw1 : w_wo 1 = bs) (hw2 : w_wo 2 = tk) (hw3 : w_wo 3 = lw) (hw4 : w_wo 4 = li) (hwz : (ln.toInt = 0 ∧ bs.toInt = 0 ∧ tk.toInt = 0 ∧ lw.toInt = 0) ∨ (1 ≤ ln.toInt ∧ 2 ≤ bs.toInt ∧ 1 ≤ tk.toInt)) : Met l yX10_asksRow uX10_asksRow ({ frames := 2, cells := 0, slots := 0, locals := 46 }) (va_Pc [.ref o0, .int a1, .int a2] (pw (dC, dI) vwCl [(o0, .inr (8, [.int x_th, .ref mwo, .ref mim, .ref mhi, .ref mlu, .ref mtp, .int x_td, .ref mfv, .int x_sz, .int x_at, .int x_fr, .int x_to, .int x_va, .int x_fk, .int x_fp, .ref mfr, .ref mwt, .int x_wt, .int x_op, .int x_jo, .ref mfg, .ref mpl, .long x_dr, .ref mtm, .ref mfa, .ref mqu, .ref mmo, .ref mwy, .ref mwn, .ref mma, .ref mwi, .ref mnu, .ref mmv])), (mwo, .inl (c_wo, 1875, .inl w_wo)), (mma, .inl (c_ma, 4, .inl w_ma))] [(c_wo, .int), (c_ma, .int)])) (vp_Si (fun r => ((-6 : Int) ≤ r.toInt ∧ r.toInt ≤ 0) ∧ (r = 0 → ((0 : Int) ≤ a1.toInt ∧ a1.toInt ≤ 3) ∧ ((0 : Int) ≤ a2.toInt ∧ a2.toInt ≤ 8) ∧ (a2.toInt < lw.toInt)))) 0 0 (fun _ => False) := by
  refine Met.ofW (cc := cX10_asksRow) (maxL := 3) (ret := (some .int)) (by decide) rfl ?_
  intro p e s m args below meth c s₁ B hml hv
  obtain ⟨rfl, hP, hK, hN⟩ := hv
  have hx := B.exec
  have hb := B.bytes
  have hr := B.returns
  have hts := atoms_spec (ws := uX10_asksRow) B.pre
  have hown : s.vm.findClass RX10 = some m.cls := findClass_of_methodNamed B.named
  have hlocks := B.notSynchronized
  have hl := lv_entry ([.ref o0, .int a1, .int a2]) (n := 3) (Nat.le_of_ble_eq_true rfl)
  rw [lg_entry_eq]
  generalize (lg_sl ([.ref o0, .int a1, .int a2]) ++ List.replicate (3 - (lg_sl ([.ref o0, .int a1, .int a2])).length) Slot.unset).toArray = ls at hl ⊢
  have hl : lv_has ls 3 [(0, .ref o0), (1, .int a1), (2, .int a2)] := hl
  refine lv_iload_n hx hb dX10_asksRow_0 rfl (lv_at hl 1 rfl) ?_
  refine vp_callSi (W.runS (As := [.int a1]) (rest := []) ⟨hx, hb, hml, hown, hts⟩ (kX10_isSlot l dC dI a1 ) (va_cwS 1 hts gX10_asksRow__X10_isSlot_S369 rfl rfl rfl (by decide +kernel) ⟨lel 2 2 rfl, lel 45 46 rfl⟩) ⟨pn_fb, pn_use⟩ rfl rfl hl.1 rfl (lv_room (Nat.le_of_ble_eq_true rfl)) dX10_asksRow_1 ⟨lel 0 0 rfl, lel 0 0 rfl⟩) (fun r_9 h_r_9 => ?_)
  obtain ⟨b_r_9, nz_r_9⟩ := h_r_9
  have b_r_9 : (0 : Int) ≤ r_9.toInt ∧ r_9.toInt ≤ 1 := b_r_9
  refine lv_if_eq (tgt := 15) hx hb dX10_asksRow_4 (by decide) (fun c_10 => ?_) (fun c_10 => ?_)
  ·
    have n_c_10 : (r_9.toInt : Int) = 0 := c_eq rfl (by decide) c_10
    have b_r_9 : (0 : Int) ≤ r_9.toInt ∧ r_9.toInt ≤ 0 := r_eq1 b_r_9 (by decide : (0 : Int) ≤ (0 : Int32).toInt ∧ (0 : Int32).toInt ≤ 0) n_c_10 (by decide)
    refine lv_bipush (v := (-2)) hx hb dX10_asksRow_15 (by decide) ?_
    exact W.iret (v := (-2)) hx hb hr (fun t ht hW => ⟨(-2), rfl, ⟨(rg_w (by decide : (-2 : Int) ≤ ((-2) : Int32).toInt ∧ ((-2) : Int32).toInt ≤ -2) (by decide) (by decide)), (fun h9 => absurd h9 (by decide))⟩, ht⟩) t_nil dX10_asksRow_17
  ·
    have n_c_10 : (r_9.toInt : Int) ≠ 0 := c_ne rfl (by decide) c_10
    have b_r_9 : (1 : Int) ≤ r_9.toInt ∧ r_9.toInt ≤ 1 := r_ne1 b_r_9 (by decide : (0 : Int) ≤ (0 : Int32).toInt ∧ (0 : Int32).toInt ≤ 0) n_c_10 (by decide)
    obtain ⟨b_a1, g_11⟩ := nz_r_9 c_10
    refine lv_aload_n hx hb dX10_asksRow_7 rfl (lv_at hl 0 rfl) ?_
    refine lv_iload_n hx hb dX10_asksRow_8 rfl (lv_at hl 2 rfl) ?_
    refine vp_callSi (W.runV (As := [.int a2]) (rest := []) ⟨hx, hb, hml, hown, hts⟩ (kX10_isLaw l dC dI o0 x_th mwo mim mhi mlu mtp x_td mfv x_sz x_at x_fr x_to x_va x_fk x_fp mfr mwt x_wt x_op x_jo mfg mpl x_dr mtm mfa mqu mmo mwy mwn mma mwi mnu mmv c_wo w_wo ln bs tk lw li a2 b_ln b_bs b_tk b_lw (hw0) (hw1) (hw2) (hw3) (hw4) (hwz)) (cwV 1 hts gX10_asksRow__X10_isLaw_V89 rfl rfl rfl (by decide +kernel) ⟨lel 2 2 rfl, lel 46 46 rfl⟩) ⟨pw_fb, va_recv hK hP (ci := 8) (q0 := 0) rfl rfl, (pw_use hP hK hN [0, 1] rfl [0] rfl)⟩ rfl rfl hl.1 rfl (lv_room (Nat.le_of_ble_eq_true rfl)) dX10_asksRow_9 ⟨lel 0 0 rfl, lel 0 0 rfl⟩) (fun r_12 h_r_12 => ?_)
    obtain ⟨b_r_12, nz_r_12⟩ := h_r_12
    have b_r_12 : (0 : Int) ≤ r_12.toInt ∧ r_12.toInt ≤ 1 := b_r_12
    refine lv_if_ne (tgt := 18) hx hb dX10_asksRow_12 (by decide) (fun c_13 => ?_) (fun c_13 => ?_)
    ·
      have n_c_13 : (r_12.toInt : Int) ≠ 0 := c_ne rfl (by decide) c_13
      have b_r_12 : (1 : Int) ≤ r_12.toInt ∧ r_12.toInt ≤ 1 := r_ne1 b_r_12 (by decide : (0 : Int) ≤ (0 : Int32).toInt ∧ (0 : Int32).toInt ≤ 0) n_c_13 (by decide)
      obtain ⟨b_a2, g_14⟩ := nz_r_12 c_13
      refine lv_aload_n hx hb dX10_asksRow_18 rfl (lv_at hl 0 rfl) ?_
      refine va_get (D := (dC, dI)) (ci := 8) (v := .ref mma) (C := RX10) (T := TX10) (N := 33) hx hb hts iX10_asksRow_X10 hown hK hP 0 rfl rfl 29 (by decide) (hts (.fieldLink RX10 65 "LuckyTicketModel" "many" "[I") (List.mem_of_getElem? (i := 14) rfl)) (fun _ h9 => h9) rfl dX10_asksRow_19 ?_
      refine lv_iload_n hx hb dX10_asksRow_22 rfl (lv_at hl 1 rfl) ?_
      refine va_iald hx hb hK hP 2 1 rfl rfl (vp_in_b b_a1 (by decide) (by decide)) dX10_asksRow_23 ?_
      refine lv_topi (fun z_15 e_z_15 => ?_)
      have b_z_15 : (-1 : Int) ≤ z_15.toInt ∧ z_15.toInt ≤ 60 := rg_at ha_mma (vp_in_b b_a1 (by decide) (by decide)) e_z_15
      refine lv_iconst (v := (-1)) hx hb dX10_asksRow_24 (by decide) ?_
      refine lv_icmp_ne (tgt := 33) hx hb dX10_asksRow_25 (by decide) (fun c_16 => ?_) (fun c_16 => ?_)
      ·
        have n_c_16 : (z_15.toInt : Int) ≠ (-1) := c_ne rfl (by decide) c_16
        have b_z_15 : (0 : Int) ≤ z_15.toInt ∧ z_15.toInt ≤ 60 := r_ne1 b_z_15 (by decide : (-1 : Int) ≤ ((-1) : Int32).toInt ∧ ((-1) : Int32).toInt ≤ -1) n_c_16 (by decide)
        refine lv_iconst (v := 0) hx hb dX10_asksRow_33 (by decide) ?_
        exact W.iret (v := 0) hx hb hr (fun t ht hW => ⟨0, rfl, ⟨(rg_w (by decide : (0 : Int) ≤ (0 : Int32).toInt ∧ (0 : Int32).toInt ≤ 0) (by decide) (by decide)), (fun _ => ⟨⟨by omega, by omega⟩, ⟨by omega, by omega⟩, (by omega)⟩)⟩, ht⟩) t_nil dX10_asksRow_34
      ·
        have n_c_16 : (z_15.toInt : Int) = (-1) := c_eq rfl (by decide) c_16
        have b_z_15 : (-1 : Int) ≤ z_15.toInt ∧ z_15.toInt ≤ -1 := r_eq1 b_z_15 (by decide : (-1 : Int) ≤ ((-1) : Int32).toInt ∧ ((-1) : Int32).toInt ≤ -1) n_c_16 (by decide)
        refine lv_bipush (v := (-6)) hx hb dX10_asksRow_28 (by decide) ?_
        refine lv_goto (tgt := 34) hx hb dX10_asksRow_30 (by decide) ?_
        exact W.iret (v := (-6)) hx hb hr (fun t ht hW => ⟨(-6), rfl, ⟨(rg_w (by decide : (-6 : Int) ≤ ((-6) : Int32).toInt ∧ ((-6) : Int32).toInt ≤ -6) (by decide) (by decide)), (fun h9 => absurd h9 (by decide))⟩, ht⟩) t_nil dX10_asksRow_34
    ·
      have n_c_13 : (r_12.toInt : Int) = 0 := c_eq rfl (by decide) c_13
      have b_r_12 : (0 : Int) ≤ r_12.toInt ∧ r_12.toInt ≤ 0 := r_eq1 b_r_12 (by decide : (0 : Int) ≤ (0 : Int32).toInt ∧ (0 : Int32).toInt ≤ 0) n_c_13 (by decide)
      refine lv_bipush (v := (-2)) hx hb dX10_asksRow_15 (by decide) ?_
      exact W.iret (v := (-2)) hx hb hr (fun t ht hW => ⟨(-2), rfl, ⟨(rg_w (by decide : (-2 : Int) ≤ ((-2) : Int32).toInt ∧ ((-2) : Int32).toInt ≤ -2) (by decide) (by decide)), (fun h9 => absurd h9 (by decide))⟩, ht⟩) t_nil dX10_asksRow_17
theorem dX10_isLuckyAt_0 : decode cX10_isLuckyAt 0 = .ok (.aload_n 0, 1) := by decide +kernel
theorem dX10_isLuckyAt_1 : decode cX10_isLuckyAt 1 = .ok (.getfield 71, 3) := by decide +kernel
theorem dX10_isLuckyAt_4 : decode cX10_isLuckyAt 4 = .ok (.bipush 60, 2) := by decide +kernel
theorem dX10_isLuckyAt_6 : decode cX10_isLuckyAt 6 = .ok (.iload_n 1, 1) := by decide +kernel
theorem dX10_isLuckyAt_7 : decode cX10_isLuckyAt 7 = .ok (.imul, 1) := by decide +kernel
theorem dX10_isLuckyAt_8 : decode cX10_isLuckyAt 8 = .ok (.iload_n 2, 1) := by decide +kernel
theorem dX10_isLuckyAt_9 : decode cX10_isLuckyAt 9 = .ok (.iadd, 1) := by decide +kernel
theorem dX10_isLuckyAt_10 : decode cX10_isLuckyAt 10 = .ok (.laload, 1) := by decide +kernel
theorem dX10_isLuckyAt_11 : decode cX10_isLuckyAt 11 = .ok (.lstore 4, 2) := by decide +kernel
theorem dX10_isLuckyAt_13 : decode cX10_isLuckyAt 13 = .ok (.aload_n 0, 1) := by decide +kernel
theorem dX10_isLuckyAt_14 : decode cX10_isLuckyAt 14 = .ok (.lload 4, 2) := by decide +kernel
theorem dX10_isLuckyAt_16 : decode cX10_isLuckyAt 16 = .ok (.invokevirtual 93, 3) := by decide +kernel
theorem dX10_isLuckyAt_19 : decode cX10_isLuckyAt 19 = .ok (.ifCond .eq 18, 3) := by decide +kernel
theorem dX10_isLuckyAt_22 : decode cX10_isLuckyAt 22 = .ok (.aload_n 0, 1) := by decide +kernel
theorem dX10_isLuckyAt_23 : decode cX10_isLuckyAt 23 = .ok (.iload_n 3, 1) := by decide +kernel
theorem dX10_isLuckyAt_24 : decode cX10_isLuckyAt 24 = .ok (.lload 4, 2) := by decide +kernel
theorem dX10_isLuckyAt_26 : decode cX10_isLuckyAt 26 = .ok (.l2i, 1) := by decide +kernel
theorem dX10_isLuckyAt_27 : decode cX10_isLuckyAt 27 = .ok (.invokevirtual 316, 3) := by decide +kernel
theorem dX10_isLuckyAt_30 : decode cX10_isLuckyAt 30 = .ok (.ifCond .eq 7, 3) := by decide +kernel
theorem dX10_isLuckyAt_33 : decode cX10_isLuckyAt 33 = .ok (.iconst 1, 1) := by decide +kernel
theorem dX10_isLuckyAt_34 : decode cX10_isLuckyAt 34 = .ok (.goto 4, 3) := by decide +kernel
theorem dX10_isLuckyAt_37 : decode cX10_isLuckyAt 37 = .ok (.iconst 0, 1) := by decide +kernel
theorem dX10_isLuckyAt_38 : decode cX10_isLuckyAt 38 = .ok (.ireturn, 1) := by decide +kernel
def uX10_isLuckyAt : List Cond := .code yX10_isLuckyAt cX10_isLuckyAt 6 (some .boolean) :: ([.fieldLink RX10 71 "LuckyTicketModel" "numbers" "[J", .methodLink RX10 93 yX10_isTicket, .instanceMethod yX10_isTicket, .selects RX10 yX10_isTicket yX10_isTicket, .initialized RX10, .code yX10_isTicket cX10_isTicket 3 (some .boolean), .fieldLink RX10 9 "LuckyTicketModel" "world" "[I", .methodLink RX10 82 yX10_in, .static yX10_in, .code yX10_in cX10_in 6 (some .boolean), .methodLink RX10 316 yX10_isLucky, .instanceMethod yX10_isLucky, .selects RX10 yX10_isLucky yX10_isLucky, .code yX10_isLucky cX10_isLucky 3 (some .boolean), .fieldLink RX10 20 "LuckyTicketModel" "luck" "[I"] ++ wsX100)
theorem iX10_isLuckyAt_X10 : ∀ w ∈ wsX100, w ∈ uX10_isLuckyAt := fun _ h => List.mem_cons_of_mem _ (List.mem_append_right _ h)
set_option maxRecDepth 20000 in
theorem gX10_isLuckyAt__X10_isTicket_V93 : GoodIn uX10_isLuckyAt (wsV RX10 93 RX10 yX10_isTicket uX10_isTicket) := goodIn_p _ [6, 10] rfl (by decide +kernel)
set_option maxRecDepth 20000 in
theorem gX10_isLuckyAt__X10_isLucky_V316 : GoodIn uX10_isLuckyAt (wsV RX10 316 RX10 yX10_isLucky uX10_isLucky) := goodIn_p _ [14] rfl (by decide +kernel)
set_option maxHeartbeats 4000000 in
set_option maxRecDepth 100000 in
theorem kX10_isLuckyAt (l : Launch) (dC : Nat → ClassId) (dI : Nat → Nat → Nat) (o0 : Nat) (x_th : Int32) (mwo : Nat) (mim : Nat) (mhi : Nat) (mlu : Nat) (mtp : Nat) (x_td : Int32) (mfv : Nat) (x_sz : Int32) (x_at : Int32) (x_fr : Int32) (x_to : Int32) (x_va : Int32) (x_fk : Int32) (x_fp : Int32) (mfr : Nat) (mwt : Nat) (x_wt : Int32) (x_op : Int32) (x_jo : Int32) (mfg : Nat) (mpl : Nat) (x_dr : Int64) (mtm : Nat) (mfa : Nat) (mqu : Nat) (mmo : Nat) (mwy : Nat) (mwn : Nat) (mma : Nat) (mwi : Nat) (mnu : Nat) (mmv : Nat) (c_wo : ClassId) (c_lu : ClassId) (c_nu : ClassId) (w_wo : Nat → Int32) (w_lu : Nat → Int32) (w_nu : Nat → Int64) (ln : Int32) (bs : Int32) (tk : Int32) (lw : Int32) (li : Int32) (a1 : Int32) (a2 : Int32) (a3 : Int32) (b_ln : (0 : Int) ≤ ln.toInt ∧ ln.toInt ≤ 12) (b_bs : (0 : Int) ≤ bs.toInt ∧ bs.toInt ≤ 16) (b_tk : (0 : Int) ≤ tk.toInt ∧ tk.toInt ≤ 20000) (b_lw : (0 : Int) ≤ lw.toInt ∧ lw.toInt ≤ 9) (b_a1 : (0 : Int) ≤ a1.toInt ∧ a1.toInt ≤ 3) (b_a2 : (0 : Int) ≤ a2.toInt ∧ a2.toInt ≤ 59) (hw0 : w_wo 0 = ln) (hw1 : w_wo 1 = bs) (hw2 : w_wo 2 = tk) (hw3 : w_wo 3 = lw) (hw4 : w_wo 4 = li) (hwz : (ln.toInt = 0 ∧ bs.toInt = 0 ∧ tk.toInt = 0 ∧ lw.toInt = 0) ∨ (1 ≤ ln.toInt ∧ 2 ≤ bs.toInt ∧ 1 ≤ tk.toInt)) : Met l yX10_isLuckyAt uX10_isLuckyAt ({ frames := 2, cells := 0, slots := 0, locals := 47 }) (va_Pc [.ref o0, .int a1, .int a2, .int a3] (pw (dC, dI) vwCl [(o0, .inr (8, [.int x_th, .ref mwo, .ref mim, .ref mhi, .ref mlu, .ref mtp, .int x_td, .ref mfv, .int x_sz, .int x_at, .int x_fr, .int x_to, .int x_va, .int x_fk, .int x_fp, .ref mfr, .ref mwt, .int x_wt, .int x_op, .int x_jo, .ref mfg, .ref mpl, .long x_dr, .ref mtm, .ref mfa, .ref mqu, .ref mmo, .ref mwy, .ref mwn, .ref mma, .ref mwi, .ref mnu, .ref mmv])), (mwo, .inl (c_wo, 1875, .inl w_wo)), (mlu, .inl (c_lu, 20000, .inl w_lu)), (mnu, .inl (c_nu, 240, .inr (.inl w_nu)))] [(c_wo, .int), (c_lu, .int), (c_nu, .long)])) (vp_Si (fun r => ((0 : Int) ≤ r.toInt ∧ r.toInt ≤ 1))) 0 0 (fun _ => False) := by
  refine Met.ofW (cc := cX10_isLuckyAt) (maxL := 6) (ret := (some .boolean)) (by decide) rfl ?_
  intro p e s m args below meth c s₁ B hml hv
  obtain ⟨rfl, hP, hK, hN⟩ := hv
  have hx := B.exec
  have hb := B.bytes
  have hr := B.returns
  have hts := atoms_spec (ws := uX10_isLuckyAt) B.pre
  have hown : s.vm.findClass RX10 = some m.cls := findClass_of_methodNamed B.named
  have hlocks := B.notSynchronized
  have hl := lv_entry ([.ref o0, .int a1, .int a2, .int a3]) (n := 6) (Nat.le_of_ble_eq_true rfl)
  rw [lg_entry_eq]
  generalize (lg_sl ([.ref o0, .int a1, .int a2, .int a3]) ++ List.replicate (6 - (lg_sl ([.ref o0, .int a1, .int a2, .int a3])).length) Slot.unset).toArray = ls at hl ⊢
  have hl : lv_has ls 6 [(0, .ref o0), (1, .int a1), (2, .int a2), (3, .int a3)] := hl
  refine lv_aload_n hx hb dX10_isLuckyAt_0 rfl (lv_at hl 0 rfl) ?_
  refine va_get (D := (dC, dI)) (ci := 8) (v := .ref mnu) (C := RX10) (T := TX10) (N := 33) hx hb hts iX10_isLuckyAt_X10 hown hK hP 0 rfl rfl 31 (by decide) (hts (.fieldLink RX10 71 "LuckyTicketModel" "numbers" "[J") (List.mem_of_getElem? (i := 1) rfl)) (fun _ h9 => h9) rfl dX10_isLuckyAt_1 ?_
  refine lv_bipush (v := 60) hx hb dX10_isLuckyAt_4 (by decide) ?_
  refine lv_iload_n hx hb dX10_isLuckyAt_6 rfl (lv_at hl 1 rfl) ?_
  refine lv_imul hx hb dX10_isLuckyAt_7 ?_
  refine lv_topi (fun z_10 e_z_10 => ?_)
  obtain ⟨q_z_10, b_z_10⟩ := ti_mul (lo := 0) (hi := 180) e_z_10 (by decide : (60 : Int32).toInt = 60) rfl (by decide : (60 : Int) ≤ (60 : Int32).toInt ∧ (60 : Int32).toInt ≤ 60) b_a1 (by decide)
  refine lv_iload_n hx hb dX10_isLuckyAt_8 rfl (lv_at hl 2 rfl) ?_
  refine lv_iadd hx hb dX10_isLuckyAt_9 ?_
  refine lv_topi (fun z_11 e_z_11 => ?_)
  obtain ⟨q_z_11, b_z_11⟩ := ti_add (lo := 0) (hi := 239) e_z_11 rfl rfl b_z_10 b_a2 (by decide)
  refine va_lald hx hb hK hP 3 2 rfl rfl (vp_in_b b_z_11 (by decide) (by decide)) dX10_isLuckyAt_10 ?_
  refine lv_topl (fun z_12 e_z_12 => ?_)
  refine lv_lstore (lv' := [(4, .long z_12), (0, .ref o0), (1, .int a1), (2, .int a2), (3, .int a3)]) hx hb dX10_isLuckyAt_11 hl (by decide) rfl (fun ls hl => ?_)
  refine lv_aload_n hx hb dX10_isLuckyAt_13 rfl (lv_at hl 1 rfl) ?_
  refine lv_lload hx hb dX10_isLuckyAt_14 (lv_at hl 0 rfl) ?_
  refine vp_callSi (W.runV (As := [.long z_12]) (rest := []) ⟨hx, hb, hml, hown, hts⟩ (kX10_isTicket l dC dI o0 x_th mwo mim mhi mlu mtp x_td mfv x_sz x_at x_fr x_to x_va x_fk x_fp mfr mwt x_wt x_op x_jo mfg mpl x_dr mtm mfa mqu mmo mwy mwn mma mwi mnu mmv c_wo w_wo ln bs tk lw li z_12 b_ln b_bs b_tk b_lw (hw0) (hw1) (hw2) (hw3) (hw4) (hwz)) (cwV 1 hts gX10_isLuckyAt__X10_isTicket_V93 rfl rfl rfl (by decide +kernel) ⟨lel 2 2 rfl, lel 47 47 rfl⟩) ⟨pw_fb, va_recv hK hP (ci := 8) (q0 := 0) rfl rfl, (pw_use hP hK hN [0, 1] rfl [0] rfl)⟩ rfl rfl hl.1 rfl (lv_room (Nat.le_of_ble_eq_true rfl)) dX10_isLuckyAt_16 ⟨lel 0 0 rfl, lel 0 0 rfl⟩) (fun r_13 h_r_13 => ?_)
  obtain ⟨b_r_13, nz_r_13⟩ := h_r_13
  have b_r_13 : (0 : Int) ≤ r_13.toInt ∧ r_13.toInt ≤ 1 := b_r_13
  refine lv_if_eq (tgt := 37) hx hb dX10_isLuckyAt_19 (by decide) (fun c_14 => ?_) (fun c_14 => ?_)
  ·
    have n_c_14 : (r_13.toInt : Int) = 0 := c_eq rfl (by decide) c_14
    have b_r_13 : (0 : Int) ≤ r_13.toInt ∧ r_13.toInt ≤ 0 := r_eq1 b_r_13 (by decide : (0 : Int) ≤ (0 : Int32).toInt ∧ (0 : Int32).toInt ≤ 0) n_c_14 (by decide)
    refine lv_iconst (v := 0) hx hb dX10_isLuckyAt_37 (by decide) ?_
    exact W.zret (v := 0) hx hb hr rfl (fun t ht hW => ⟨0, rfl, (rg_w (by decide : (0 : Int) ≤ (0 : Int32).toInt ∧ (0 : Int32).toInt ≤ 0) (by decide) (by decide)), ht⟩) t_nil dX10_isLuckyAt_38
  ·
    have n_c_14 : (r_13.toInt : Int) ≠ 0 := c_ne rfl (by decide) c_14
    have b_r_13 : (1 : Int) ≤ r_13.toInt ∧ r_13.toInt ≤ 1 := r_ne1 b_r_13 (by decide : (0 : Int) ≤ (0 : Int32).toInt ∧ (0 : Int32).toInt ≤ 0) n_c_14 (by decide)
    obtain ⟨b_z_12, g_15⟩ := nz_r_13 c_14
    refine lv_aload_n hx hb dX10_isLuckyAt_22 rfl (lv_at hl 1 rfl) ?_
    refine lv_iload_n hx hb dX10_isLuckyAt_23 rfl (lv_at hl 4 rfl) ?_
    refine lv_lload hx hb dX10_isLuckyAt_24 (lv_at hl 0 rfl) ?_
    obtain ⟨z_16, e_z_16⟩ : ∃ y : Int32, y = z_12.toInt32 := ⟨_, rfl⟩
    refine lv_l2i (v := z_16) hx hb dX10_isLuckyAt_26 e_z_16.symm ?_
    obtain ⟨q_z_16, b_z_16⟩ := ti_l2i e_z_16 b_z_12 (by decide)
    refine vp_callSi (W.runV (As := [.int a3, .int z_16]) (rest := []) ⟨hx, hb, hml, hown, hts⟩ (kX10_isLucky l dC dI o0 x_th mwo mim mhi mlu mtp x_td mfv x_sz x_at x_fr x_to x_va x_fk x_fp mfr mwt x_wt x_op x_jo mfg mpl x_dr mtm mfa mqu mmo mwy mwn mma mwi mnu mmv c_wo c_lu w_wo w_lu ln bs tk lw li a3 z_16 b_ln b_bs b_tk b_lw b_z_16 (hw0) (hw1) (hw2) (hw3) (hw4) (hwz)) (cwV 2 hts gX10_isLuckyAt__X10_isLucky_V316 rfl rfl rfl (by decide +kernel) ⟨lel 1 2 rfl, lel 22 47 rfl⟩) ⟨pw_fb, va_recv hK hP (ci := 8) (q0 := 0) rfl rfl, (pw_use hP hK hN [0, 1, 2] rfl [0, 1] rfl)⟩ rfl rfl hl.1 rfl (lv_room (Nat.le_of_ble_eq_true rfl)) dX10_isLuckyAt_27 ⟨lel 0 0 rfl, lel 0 0 rfl⟩) (fun r_17 h_r_17 => ?_)
    have b_r_17 := h_r_17
    have b_r_17 : (0 : Int) ≤ r_17.toInt ∧ r_17.toInt ≤ 1 := b_r_17
    refine lv_if_eq (tgt := 37) hx hb dX10_isLuckyAt_30 (by decide) (fun c_18 => ?_) (fun c_18 => ?_)
    ·
      have n_c_18 : (r_17.toInt : Int) = 0 := c_eq rfl (by decide) c_18
      have b_r_17 : (0 : Int) ≤ r_17.toInt ∧ r_17.toInt ≤ 0 := r_eq1 b_r_17 (by decide : (0 : Int) ≤ (0 : Int32).toInt ∧ (0 : Int32).toInt ≤ 0) n_c_18 (by decide)
      refine lv_iconst (v := 0) hx hb dX10_isLuckyAt_37 (by decide) ?_
      exact W.zret (v := 0) hx hb hr rfl (fun t ht hW => ⟨0, rfl, (rg_w (by decide : (0 : Int) ≤ (0 : Int32).toInt ∧ (0 : Int32).toInt ≤ 0) (by decide) (by decide)), ht⟩) t_nil dX10_isLuckyAt_38
    ·
      have n_c_18 : (r_17.toInt : Int) ≠ 0 := c_ne rfl (by decide) c_18
      have b_r_17 : (1 : Int) ≤ r_17.toInt ∧ r_17.toInt ≤ 1 := r_ne1 b_r_17 (by decide : (0 : Int) ≤ (0 : Int32).toInt ∧ (0 : Int32).toInt ≤ 0) n_c_18 (by decide)
      refine lv_iconst (v := 1) hx hb dX10_isLuckyAt_33 (by decide) ?_
      refine lv_goto (tgt := 38) hx hb dX10_isLuckyAt_34 (by decide) ?_
      exact W.zret (v := 1) hx hb hr rfl (fun t ht hW => ⟨1, rfl, (rg_w (by decide : (1 : Int) ≤ (1 : Int32).toInt ∧ (1 : Int32).toInt ≤ 1) (by decide) (by decide)), ht⟩) t_nil dX10_isLuckyAt_38
theorem dX10_judge_0 : decode cX10_judge 0 = .ok (.aload_n 0, 1) := by decide +kernel
theorem dX10_judge_1 : decode cX10_judge 1 = .ok (.iload_n 1, 1) := by decide +kernel
theorem dX10_judge_2 : decode cX10_judge 2 = .ok (.iload_n 2, 1) := by decide +kernel
theorem dX10_judge_3 : decode cX10_judge 3 = .ok (.invokevirtual 421, 3) := by decide +kernel
theorem dX10_judge_6 : decode cX10_judge 6 = .ok (.istore_n 3, 1) := by decide +kernel
theorem dX10_judge_7 : decode cX10_judge 7 = .ok (.iload_n 3, 1) := by decide +kernel
theorem dX10_judge_8 : decode cX10_judge 8 = .ok (.ifCond .ge 5, 3) := by decide +kernel
theorem dX10_judge_11 : decode cX10_judge 11 = .ok (.iload_n 3, 1) := by decide +kernel
theorem dX10_judge_12 : decode cX10_judge 12 = .ok (.ireturn, 1) := by decide +kernel
theorem dX10_judge_13 : decode cX10_judge 13 = .ok (.iconst 0, 1) := by decide +kernel
theorem dX10_judge_14 : decode cX10_judge 14 = .ok (.istore 4, 2) := by decide +kernel
theorem dX10_judge_16 : decode cX10_judge 16 = .ok (.iload 4, 2) := by decide +kernel
theorem dX10_judge_18 : decode cX10_judge 18 = .ok (.aload_n 0, 1) := by decide +kernel
theorem dX10_judge_19 : decode cX10_judge 19 = .ok (.getfield 65, 3) := by decide +kernel
theorem dX10_judge_22 : decode cX10_judge 22 = .ok (.iload_n 1, 1) := by decide +kernel
theorem dX10_judge_23 : decode cX10_judge 23 = .ok (.iaload, 1) := by decide +kernel
theorem dX10_judge_24 : decode cX10_judge 24 = .ok (.if_icmp .ge 20, 3) := by decide +kernel
theorem dX10_judge_27 : decode cX10_judge 27 = .ok (.aload_n 0, 1) := by decide +kernel
theorem dX10_judge_28 : decode cX10_judge 28 = .ok (.iload_n 1, 1) := by decide +kernel
theorem dX10_judge_29 : decode cX10_judge 29 = .ok (.iload 4, 2) := by decide +kernel
theorem dX10_judge_31 : decode cX10_judge 31 = .ok (.iload_n 2, 1) := by decide +kernel
theorem dX10_judge_32 : decode cX10_judge 32 = .ok (.invokevirtual 424, 3) := by decide +kernel
theorem dX10_judge_35 : decode cX10_judge 35 = .ok (.ifCond .eq 9, 3) := by decide +kernel
theorem dX10_judge_38 : decode cX10_judge 38 = .ok (.iinc 4 1, 3) := by decide +kernel
theorem dX10_judge_41 : decode cX10_judge 41 = .ok (.goto (-25), 3) := by decide +kernel
theorem dX10_judge_44 : decode cX10_judge 44 = .ok (.iload 4, 2) := by decide +kernel
theorem dX10_judge_46 : decode cX10_judge 46 = .ok (.ireturn, 1) := by decide +kernel
def uX10_judge : List Cond := .code yX10_judge cX10_judge 5 (some .int) :: ([.methodLink RX10 421 yX10_asksRow, .instanceMethod yX10_asksRow, .selects RX10 yX10_asksRow yX10_asksRow, .initialized RX10, .code yX10_asksRow cX10_asksRow 3 (some .int), .methodLink RX10 369 yX10_isSlot, .static yX10_isSlot, .code yX10_isSlot cX10_isSlot 1 (some .boolean), .constantLong RX10 375 (3), .methodLink RX10 82 yX10_in, .static yX10_in, .code yX10_in cX10_in 6 (some .boolean), .methodLink RX10 89 yX10_isLaw, .instanceMethod yX10_isLaw, .selects RX10 yX10_isLaw yX10_isLaw, .code yX10_isLaw cX10_isLaw 2 (some .boolean), .fieldLink RX10 9 "LuckyTicketModel" "world" "[I", .fieldLink RX10 65 "LuckyTicketModel" "many" "[I", .methodLink RX10 424 yX10_isLuckyAt, .instanceMethod yX10_isLuckyAt, .selects RX10 yX10_isLuckyAt yX10_isLuckyAt, .code yX10_isLuckyAt cX10_isLuckyAt 6 (some .boolean), .fieldLink RX10 71 "LuckyTicketModel" "numbers" "[J", .methodLink RX10 93 yX10_isTicket, .instanceMethod yX10_isTicket, .selects RX10 yX10_isTicket yX10_isTicket, .code yX10_isTicket cX10_isTicket 3 (some .boolean), .methodLink RX10 316 yX10_isLucky, .instanceMethod yX10_isLucky, .selects RX10 yX10_isLucky yX10_isLucky, .code yX10_isLucky cX10_isLucky 3 (some .boolean), .fieldLink RX10 20 "LuckyTicketModel" "luck" "[I"] ++ wsX100)
theorem iX10_judge_X10 : ∀ w ∈ wsX100, w ∈ uX10_judge := fun _ h => List.mem_cons_of_mem _ (List.mem_append_right _ h)
set_option maxRecDepth 20000 in
theorem gX10_judge__X10_asksRow_V421 : GoodIn uX10_judge (wsV RX10 421 RX10 yX10_asksRow uX10_asksRow) := goodIn_p _ [5, 8, 12, 16] rfl (by decide +kernel)
set_option maxRecDepth 20000 in
theorem gX10_judge__X10_isLuckyAt_V424 : GoodIn uX10_judge (wsV RX10 424 RX10 yX10_isLuckyAt uX10_isLuckyAt) := goodIn_p _ [22, 27, 12, 31] rfl (by decide +kernel)
set_option maxHeartbeats 4000000 in
set_option maxRecDepth 100000 in
theorem kX10_judge (l : Launch) (dC : Nat → ClassId) (dI : Nat → Nat → Nat) (o0 : Nat) (x_th : Int32) (mwo : Nat) (mim : Nat) (mhi : Nat) (mlu : Nat) (mtp : Nat) (x_td : Int32) (mfv : Nat) (x_sz : Int32) (x_at : Int32) (x_fr : Int32) (x_to : Int32) (x_va : Int32) (x_fk : Int32) (x_fp : Int32) (mfr : Nat) (mwt : Nat) (x_wt : Int32) (x_op : Int32) (x_jo : Int32) (mfg : Nat) (mpl : Nat) (x_dr : Int64) (mtm : Nat) (mfa : Nat) (mqu : Nat) (mmo : Nat) (mwy : Nat) (mwn : Nat) (mma : Nat) (mwi : Nat) (mnu : Nat) (mmv : Nat) (c_wo : ClassId) (c_lu : ClassId) (c_nu : ClassId) (c_ma : ClassId) (w_wo : Nat → Int32) (w_lu : Nat → Int32) (w_nu : Nat → Int64) (w_ma : Nat → Int32) (ln : Int32) (bs : Int32) (tk : Int32) (lw : Int32) (li : Int32) (a1 : Int32) (a2 : Int32) (b_ln : (0 : Int) ≤ ln.toInt ∧ ln.toInt ≤ 12) (b_bs : (0 : Int) ≤ bs.toInt ∧ bs.toInt ≤ 16) (b_tk : (0 : Int) ≤ tk.toInt ∧ tk.toInt ≤ 20000) (b_lw : (0 : Int) ≤ lw.toInt ∧ lw.toInt ≤ 9) (ha_mma : rg w_ma 4 (-1) 60) (hw0 : w_wo 0 = ln) (hw1 : w_wo 1 = bs) (hw2 : w_wo 2 = tk) (hw3 : w_wo 3 = lw) (hw4 : w_wo 4 = li) (hwz : (ln.toInt = 0 ∧ bs.toInt = 0 ∧ tk.toInt = 0 ∧ lw.toInt = 0) ∨ (1 ≤ ln.toInt ∧ 2 ≤ bs.toInt ∧ 1 ≤ tk.toInt)) : Met l yX10_judge uX10_judge ({ frames := 3, cells := 0, slots := 0, locals := 72 }) (va_Pc [.ref o0, .int a1, .int a2] (pw (dC, dI) vwCl [(o0, .inr (8, [.int x_th, .ref mwo, .ref mim, .ref mhi, .ref mlu, .ref mtp, .int x_td, .ref mfv, .int x_sz, .int x_at, .int x_fr, .int x_to, .int x_va, .int x_fk, .int x_fp, .ref mfr, .ref mwt, .int x_wt, .int x_op, .int x_jo, .ref mfg, .ref mpl, .long x_dr, .ref mtm, .ref mfa, .ref mqu, .ref mmo, .ref mwy, .ref mwn, .ref mma, .ref mwi, .ref mnu, .ref mmv])), (mwo, .inl (c_wo, 1875, .inl w_wo)), (mlu, .inl (c_lu, 20000, .inl w_lu)), (mnu, .inl (c_nu, 240, .inr (.inl w_nu))), (mma, .inl (c_ma, 4, .inl w_ma))] [(c_wo, .int), (c_lu, .int), (c_nu, .long), (c_ma, .int)])) (vp_Si (fun r => ((-6 : Int) ≤ r.toInt ∧ r.toInt ≤ 60))) 0 0 (fun _ => False) := by
  refine Met.ofW (cc := cX10_judge) (maxL := 5) (ret := (some .int)) (by decide) rfl ?_
  intro p e s m args below meth c s₁ B hml hv
  obtain ⟨rfl, hP, hK, hN⟩ := hv
  have hx := B.exec
  have hb := B.bytes
  have hr := B.returns
  have hts := atoms_spec (ws := uX10_judge) B.pre
  have hown : s.vm.findClass RX10 = some m.cls := findClass_of_methodNamed B.named
  have hlocks := B.notSynchronized
  have hl := lv_entry ([.ref o0, .int a1, .int a2]) (n := 5) (Nat.le_of_ble_eq_true rfl)
  rw [lg_entry_eq]
  generalize (lg_sl ([.ref o0, .int a1, .int a2]) ++ List.replicate (5 - (lg_sl ([.ref o0, .int a1, .int a2])).length) Slot.unset).toArray = ls at hl ⊢
  have hl : lv_has ls 5 [(0, .ref o0), (1, .int a1), (2, .int a2)] := hl
  refine lv_aload_n hx hb dX10_judge_0 rfl (lv_at hl 0 rfl) ?_
  refine lv_iload_n hx hb dX10_judge_1 rfl (lv_at hl 1 rfl) ?_
  refine lv_iload_n hx hb dX10_judge_2 rfl (lv_at hl 2 rfl) ?_
  refine vp_callSi (W.runV (As := [.int a1, .int a2]) (rest := []) ⟨hx, hb, hml, hown, hts⟩ (kX10_asksRow l dC dI o0 x_th mwo mim mhi mlu mtp x_td mfv x_sz x_at x_fr x_to x_va x_fk x_fp mfr mwt x_wt x_op x_jo mfg mpl x_dr mtm mfa mqu mmo mwy mwn mma mwi mnu mmv c_wo c_ma w_wo w_ma ln bs tk lw li a1 a2 b_ln b_bs b_tk b_lw ha_mma (hw0) (hw1) (hw2) (hw3) (hw4) (hwz)) (cwV 2 hts gX10_judge__X10_asksRow_V421 rfl rfl rfl (by decide +kernel) ⟨lel 3 3 rfl, lel 68 72 rfl⟩) ⟨pw_fb, va_recv hK hP (ci := 8) (q0 := 0) rfl rfl, (pw_use hP hK hN [0, 1, 4] rfl [0, 3] rfl)⟩ rfl rfl hl.1 rfl (lv_room (Nat.le_of_ble_eq_true rfl)) dX10_judge_3 ⟨lel 0 0 rfl, lel 0 0 rfl⟩) (fun r_40 h_r_40 => ?_)
  obtain ⟨b_r_40, zz_r_40⟩ := h_r_40
  have b_r_40 : (-6 : Int) ≤ r_40.toInt ∧ r_40.toInt ≤ 0 := b_r_40
  refine lv_istore_n (lv' := [(3, .int r_40), (0, .ref o0), (1, .int a1), (2, .int a2)]) hx hb dX10_judge_6 rfl hl (by decide) rfl (fun ls hl => ?_)
  refine lv_iload_n hx hb dX10_judge_7 rfl (lv_at hl 0 rfl) ?_
  refine lv_if_ge (tgt := 13) hx hb dX10_judge_8 (by decide) (fun c_41 => ?_) (fun c_41 => ?_)
  ·
    have n_c_41 : (0 : Int) ≤ r_40.toInt := c_ge rfl (by decide) c_41
    have b_r_40 : (0 : Int) ≤ r_40.toInt ∧ r_40.toInt ≤ 0 := r_le2 (by decide : (0 : Int) ≤ (0 : Int32).toInt ∧ (0 : Int32).toInt ≤ 0) b_r_40 n_c_41 (by decide)
    obtain ⟨b_a1, b_a2, g_42⟩ := zz_r_40 (ti_z b_r_40)
    refine lv_iconst (v := 0) hx hb dX10_judge_13 (by decide) ?_
    refine lv_istore (lv' := [(4, .int 0), (3, .int r_40), (0, .ref o0), (1, .int a1), (2, .int a2)]) hx hb dX10_judge_14 hl (by decide) rfl (fun ls hl => ?_)
    refine loopP (σ := Int32) (fun v => (60 - v.toInt).toNat) (fun v ls => ((0 : Int) ≤ v.toInt ∧ v.toInt ≤ 60) ∧ lv_has ls 5 [(4, .int v), (3, .int r_40), (0, .ref o0), (1, .int a1), (2, .int a2)]) (fun v ls hI ih_16_73 => ?_) (0 : Int32) ⟨(show (0 : Int) ≤ (0 : Int32).toInt ∧ (0 : Int32).toInt ≤ 60 from (rg_w (by decide : (0 : Int) ≤ (0 : Int32).toInt ∧ (0 : Int32).toInt ≤ 0) (by decide) (by decide))), lv_sub hl [0, 1, 2, 3, 4] rfl⟩
    obtain ⟨y_48, rfl⟩ : ∃ z, z = v := ⟨_, rfl⟩
    obtain ⟨b_y_48, hl⟩ := hI
    have b_y_48 : (0 : Int) ≤ y_48.toInt ∧ y_48.toInt ≤ 60 := b_y_48
    have hl : lv_has ls 5 [(4, .int y_48), (3, .int r_40), (0, .ref o0), (1, .int a1), (2, .int a2)] := hl
    refine lv_iload hx hb dX10_judge_16 (lv_at hl 0 rfl) ?_
    refine lv_aload_n hx hb dX10_judge_18 rfl (lv_at hl 2 rfl) ?_
    refine va_get (D := (dC, dI)) (ci := 8) (v := .ref mma) (C := RX10) (T := TX10) (N := 33) hx hb hts iX10_judge_X10 hown hK hP 0 rfl rfl 29 (by decide) (hts (.fieldLink RX10 65 "LuckyTicketModel" "many" "[I") (List.mem_of_getElem? (i := 18) rfl)) (fun _ h9 => h9) rfl dX10_judge_19 ?_
    refine lv_iload_n hx hb dX10_judge_22 rfl (lv_at hl 3 rfl) ?_
    refine va_iald hx hb hK hP 4 3 rfl rfl (vp_in_b b_a1 (by decide) (by decide)) dX10_judge_23 ?_
    refine lv_topi (fun z_74 e_z_74 => ?_)
    have b_z_74 : (-1 : Int) ≤ z_74.toInt ∧ z_74.toInt ≤ 60 := rg_at ha_mma (vp_in_b b_a1 (by decide) (by decide)) e_z_74
    refine lv_icmp_ge (tgt := 44) hx hb dX10_judge_24 (by decide) (fun c_75 => ?_) (fun c_75 => ?_)
    ·
      have n_c_75 : (z_74.toInt : Int) ≤ y_48.toInt := c_ge rfl rfl c_75
      refine lv_iload hx hb dX10_judge_44 (lv_at hl 0 rfl) ?_
      exact W.iret (v := y_48) hx hb hr (fun t ht hW => ⟨y_48, rfl, (rg_w b_y_48 (by decide) (by decide)), ht⟩) t_nil dX10_judge_46
    ·
      have n_c_75 : (y_48.toInt : Int) < z_74.toInt := c_nge rfl rfl c_75
      have b_y_48 : (0 : Int) ≤ y_48.toInt ∧ y_48.toInt ≤ 59 := r_lt1 b_y_48 b_z_74 n_c_75 (by decide)
      have b_z_74 : (1 : Int) ≤ z_74.toInt ∧ z_74.toInt ≤ 60 := r_lt2 b_y_48 b_z_74 n_c_75 (by decide)
      refine lv_aload_n hx hb dX10_judge_27 rfl (lv_at hl 2 rfl) ?_
      refine lv_iload_n hx hb dX10_judge_28 rfl (lv_at hl 3 rfl) ?_
      refine lv_iload hx hb dX10_judge_29 (lv_at hl 0 rfl) ?_
      refine lv_iload_n hx hb dX10_judge_31 rfl (lv_at hl 4 rfl) ?_
      refine vp_callSi (W.runV (As := [.int a1, .int y_48, .int a2]) (rest := []) ⟨hx, hb, hml, hown, hts⟩ (kX10_isLuckyAt l dC dI o0 x_th mwo mim mhi mlu mtp x_td mfv x_sz x_at x_fr x_to x_va x_fk x_fp mfr mwt x_wt x_op x_jo mfg mpl x_dr mtm mfa mqu mmo mwy mwn mma mwi mnu mmv c_wo c_lu c_nu w_wo w_lu w_nu ln bs tk lw li a1 y_48 a2 b_ln b_bs b_tk b_lw b_a1 b_y_48 (hw0) (hw1) (hw2) (hw3) (hw4) (hwz)) (cwV 3 hts gX10_judge__X10_isLuckyAt_V424 rfl rfl rfl (by decide +kernel) ⟨lel 3 3 rfl, lel 72 72 rfl⟩) ⟨pw_fb, va_recv hK hP (ci := 8) (q0 := 0) rfl rfl, (pw_use hP hK hN [0, 1, 2, 3] rfl [0, 1, 2] rfl)⟩ rfl rfl hl.1 rfl (lv_room (Nat.le_of_ble_eq_true rfl)) dX10_judge_32 ⟨lel 0 0 rfl, lel 0 0 rfl⟩) (fun r_76 h_r_76 => ?_)
      have b_r_76 := h_r_76
      have b_r_76 : (0 : Int) ≤ r_76.toInt ∧ r_76.toInt ≤ 1 := b_r_76
      refine lv_if_eq (tgt := 44) hx hb dX10_judge_35 (by decide) (fun c_77 => ?_) (fun c_77 => ?_)
      ·
        have n_c_77 : (r_76.toInt : Int) = 0 := c_eq rfl (by decide) c_77
        have b_r_76 : (0 : Int) ≤ r_76.toInt ∧ r_76.toInt ≤ 0 := r_eq1 b_r_76 (by decide : (0 : Int) ≤ (0 : Int32).toInt ∧ (0 : Int32).toInt ≤ 0) n_c_77 (by decide)
        refine lv_iload hx hb dX10_judge_44 (lv_at hl 0 rfl) ?_
        exact W.iret (v := y_48) hx hb hr (fun t ht hW => ⟨y_48, rfl, (rg_w b_y_48 (by decide) (by decide)), ht⟩) t_nil dX10_judge_46
      ·
        have n_c_77 : (r_76.toInt : Int) ≠ 0 := c_ne rfl (by decide) c_77
        have b_r_76 : (1 : Int) ≤ r_76.toInt ∧ r_76.toInt ≤ 1 := r_ne1 b_r_76 (by decide : (0 : Int) ≤ (0 : Int32).toInt ∧ (0 : Int32).toInt ≤ 0) n_c_77 (by decide)
        obtain ⟨z_78, e_z_78⟩ : ∃ y : Int32, y = y_48 + 1 := ⟨_, rfl⟩
        refine lv_iinc (v := z_78) (lv' := [(4, .int z_78), (3, .int r_40), (0, .ref o0), (1, .int a1), (2, .int a2)]) hx hb dX10_judge_38 hl (k := 0) rfl (by rw [e_z_78]; rfl) (by decide) rfl (fun ls hl => ?_)
        obtain ⟨q_z_78, b_z_78⟩ := ti_add (lo := 1) (hi := 60) e_z_78 rfl (by decide : (1 : Int32).toInt = 1) b_y_48 (by decide : (1 : Int) ≤ (1 : Int32).toInt ∧ (1 : Int32).toInt ≤ 1) (by decide)
        refine lv_goto (tgt := 16) hx hb dX10_judge_41 (by decide) ?_
        exact ih_16_73 z_78 _ ⟨(show (0 : Int) ≤ z_78.toInt ∧ z_78.toInt ≤ 60 from (rg_w b_z_78 (by decide) (by decide))), lv_sub hl [0, 1, 2, 3, 4] rfl⟩ (show (60 - z_78.toInt).toNat < (60 - y_48.toInt).toNat by omega)
  ·
    have n_c_41 : (r_40.toInt : Int) < 0 := c_nge rfl (by decide) c_41
    have b_r_40 : (-6 : Int) ≤ r_40.toInt ∧ r_40.toInt ≤ -1 := r_lt1 b_r_40 (by decide : (0 : Int) ≤ (0 : Int32).toInt ∧ (0 : Int32).toInt ≤ 0) n_c_41 (by decide)
    refine lv_iload_n hx hb dX10_judge_11 rfl (lv_at hl 0 rfl) ?_
    exact W.iret (v := r_40) hx hb hr (fun t ht hW => ⟨r_40, rfl, (rg_w b_r_40 (by decide) (by decide)), ht⟩) t_nil dX10_judge_12
theorem dX10_kept_0 : decode cX10_kept 0 = .ok (.aload_n 0, 1) := by decide +kernel
theorem dX10_kept_1 : decode cX10_kept 1 = .ok (.iload_n 1, 1) := by decide +kernel
theorem dX10_kept_2 : decode cX10_kept 2 = .ok (.iload_n 2, 1) := by decide +kernel
theorem dX10_kept_3 : decode cX10_kept 3 = .ok (.invokevirtual 421, 3) := by decide +kernel
theorem dX10_kept_6 : decode cX10_kept 6 = .ok (.istore_n 3, 1) := by decide +kernel
theorem dX10_kept_7 : decode cX10_kept 7 = .ok (.iload_n 3, 1) := by decide +kernel
theorem dX10_kept_8 : decode cX10_kept 8 = .ok (.ifCond .ge 5, 3) := by decide +kernel
theorem dX10_kept_11 : decode cX10_kept 11 = .ok (.iload_n 3, 1) := by decide +kernel
theorem dX10_kept_12 : decode cX10_kept 12 = .ok (.ireturn, 1) := by decide +kernel
theorem dX10_kept_13 : decode cX10_kept 13 = .ok (.iconst 0, 1) := by decide +kernel
theorem dX10_kept_14 : decode cX10_kept 14 = .ok (.istore 4, 2) := by decide +kernel
theorem dX10_kept_16 : decode cX10_kept 16 = .ok (.iconst 0, 1) := by decide +kernel
theorem dX10_kept_17 : decode cX10_kept 17 = .ok (.istore 5, 2) := by decide +kernel
theorem dX10_kept_19 : decode cX10_kept 19 = .ok (.iload 5, 2) := by decide +kernel
theorem dX10_kept_21 : decode cX10_kept 21 = .ok (.aload_n 0, 1) := by decide +kernel
theorem dX10_kept_22 : decode cX10_kept 22 = .ok (.getfield 65, 3) := by decide +kernel
theorem dX10_kept_25 : decode cX10_kept 25 = .ok (.iload_n 1, 1) := by decide +kernel
theorem dX10_kept_26 : decode cX10_kept 26 = .ok (.iaload, 1) := by decide +kernel
theorem dX10_kept_27 : decode cX10_kept 27 = .ok (.if_icmp .ge 90, 3) := by decide +kernel
theorem dX10_kept_30 : decode cX10_kept 30 = .ok (.aload_n 0, 1) := by decide +kernel
theorem dX10_kept_31 : decode cX10_kept 31 = .ok (.iload_n 1, 1) := by decide +kernel
theorem dX10_kept_32 : decode cX10_kept 32 = .ok (.iload 5, 2) := by decide +kernel
theorem dX10_kept_34 : decode cX10_kept 34 = .ok (.iload_n 2, 1) := by decide +kernel
theorem dX10_kept_35 : decode cX10_kept 35 = .ok (.invokevirtual 424, 3) := by decide +kernel
theorem dX10_kept_38 : decode cX10_kept 38 = .ok (.istore 6, 2) := by decide +kernel
theorem dX10_kept_40 : decode cX10_kept 40 = .ok (.iconst 0, 1) := by decide +kernel
theorem dX10_kept_41 : decode cX10_kept 41 = .ok (.istore 7, 2) := by decide +kernel
theorem dX10_kept_43 : decode cX10_kept 43 = .ok (.iload 7, 2) := by decide +kernel
theorem dX10_kept_45 : decode cX10_kept 45 = .ok (.iload 5, 2) := by decide +kernel
theorem dX10_kept_47 : decode cX10_kept 47 = .ok (.if_icmp .ge 49, 3) := by decide +kernel
theorem dX10_kept_50 : decode cX10_kept 50 = .ok (.iload 6, 2) := by decide +kernel
theorem dX10_kept_52 : decode cX10_kept 52 = .ok (.ifCond .eq 44, 3) := by decide +kernel
theorem dX10_kept_55 : decode cX10_kept 55 = .ok (.aload_n 0, 1) := by decide +kernel
theorem dX10_kept_56 : decode cX10_kept 56 = .ok (.getfield 71, 3) := by decide +kernel
theorem dX10_kept_59 : decode cX10_kept 59 = .ok (.bipush 60, 2) := by decide +kernel
theorem dX10_kept_61 : decode cX10_kept 61 = .ok (.iload_n 1, 1) := by decide +kernel
theorem dX10_kept_62 : decode cX10_kept 62 = .ok (.imul, 1) := by decide +kernel
theorem dX10_kept_63 : decode cX10_kept 63 = .ok (.iload 7, 2) := by decide +kernel
theorem dX10_kept_65 : decode cX10_kept 65 = .ok (.iadd, 1) := by decide +kernel
theorem dX10_kept_66 : decode cX10_kept 66 = .ok (.laload, 1) := by decide +kernel
theorem dX10_kept_67 : decode cX10_kept 67 = .ok (.aload_n 0, 1) := by decide +kernel
theorem dX10_kept_68 : decode cX10_kept 68 = .ok (.getfield 71, 3) := by decide +kernel
theorem dX10_kept_71 : decode cX10_kept 71 = .ok (.bipush 60, 2) := by decide +kernel
theorem dX10_kept_73 : decode cX10_kept 73 = .ok (.iload_n 1, 1) := by decide +kernel
theorem dX10_kept_74 : decode cX10_kept 74 = .ok (.imul, 1) := by decide +kernel
theorem dX10_kept_75 : decode cX10_kept 75 = .ok (.iload 5, 2) := by decide +kernel
theorem dX10_kept_77 : decode cX10_kept 77 = .ok (.iadd, 1) := by decide +kernel
theorem dX10_kept_78 : decode cX10_kept 78 = .ok (.laload, 1) := by decide +kernel
theorem dX10_kept_79 : decode cX10_kept 79 = .ok (.lcmp, 1) := by decide +kernel
theorem dX10_kept_80 : decode cX10_kept 80 = .ok (.ifCond .eq 7, 3) := by decide +kernel
theorem dX10_kept_83 : decode cX10_kept 83 = .ok (.iconst 1, 1) := by decide +kernel
theorem dX10_kept_84 : decode cX10_kept 84 = .ok (.goto 4, 3) := by decide +kernel
theorem dX10_kept_87 : decode cX10_kept 87 = .ok (.iconst 0, 1) := by decide +kernel
theorem dX10_kept_88 : decode cX10_kept 88 = .ok (.istore 6, 2) := by decide +kernel
theorem dX10_kept_90 : decode cX10_kept 90 = .ok (.iinc 7 1, 3) := by decide +kernel
theorem dX10_kept_93 : decode cX10_kept 93 = .ok (.goto (-50), 3) := by decide +kernel
theorem dX10_kept_96 : decode cX10_kept 96 = .ok (.iload 4, 2) := by decide +kernel
theorem dX10_kept_98 : decode cX10_kept 98 = .ok (.iload 6, 2) := by decide +kernel
theorem dX10_kept_100 : decode cX10_kept 100 = .ok (.ifCond .eq 7, 3) := by decide +kernel
theorem dX10_kept_103 : decode cX10_kept 103 = .ok (.iconst 1, 1) := by decide +kernel
theorem dX10_kept_104 : decode cX10_kept 104 = .ok (.goto 4, 3) := by decide +kernel
theorem dX10_kept_107 : decode cX10_kept 107 = .ok (.iconst 0, 1) := by decide +kernel
theorem dX10_kept_108 : decode cX10_kept 108 = .ok (.iadd, 1) := by decide +kernel
theorem dX10_kept_109 : decode cX10_kept 109 = .ok (.istore 4, 2) := by decide +kernel
theorem dX10_kept_111 : decode cX10_kept 111 = .ok (.iinc 5 1, 3) := by decide +kernel
theorem dX10_kept_114 : decode cX10_kept 114 = .ok (.goto (-95), 3) := by decide +kernel
theorem dX10_kept_117 : decode cX10_kept 117 = .ok (.iload 4, 2) := by decide +kernel
theorem dX10_kept_119 : decode cX10_kept 119 = .ok (.ireturn, 1) := by decide +kernel
def uX10_kept : List Cond := .code yX10_kept cX10_kept 8 (some .int) :: ([.methodLink RX10 421 yX10_asksRow, .instanceMethod yX10_asksRow, .selects RX10 yX10_asksRow yX10_asksRow, .initialized RX10, .code yX10_asksRow cX10_asksRow 3 (some .int), .methodLink RX10 369 yX10_isSlot, .static yX10_isSlot, .code yX10_isSlot cX10_isSlot 1 (some .boolean), .constantLong RX10 375 (3), .methodLink RX10 82 yX10_in, .static yX10_in, .code yX10_in cX10_in 6 (some .boolean), .methodLink RX10 89 yX10_isLaw, .instanceMethod yX10_isLaw, .selects RX10 yX10_isLaw yX10_isLaw, .code yX10_isLaw cX10_isLaw 2 (some .boolean), .fieldLink RX10 9 "LuckyTicketModel" "world" "[I", .fieldLink RX10 65 "LuckyTicketModel" "many" "[I", .methodLink RX10 424 yX10_isLuckyAt, .instanceMethod yX10_isLuckyAt, .selects RX10 yX10_isLuckyAt yX10_isLuckyAt, .code yX10_isLuckyAt cX10_isLuckyAt 6 (some .boolean), .fieldLink RX10 71 "LuckyTicketModel" "numbers" "[J", .methodLink RX10 93 yX10_isTicket, .instanceMethod yX10_isTicket, .selects RX10 yX10_isTicket yX10_isTicket, .code yX10_isTicket cX10_isTicket 3 (some .boolean), .methodLink RX10 316 yX10_isLucky, .instanceMethod yX10_isLucky, .selects RX10 yX10_isLucky yX10_isLucky, .code yX10_isLucky cX10_isLucky 3 (some .boolean), .fieldLink RX10 20 "LuckyTicketModel" "luck" "[I"] ++ wsX100)
theorem iX10_kept_X10 : ∀ w ∈ wsX100, w ∈ uX10_kept := fun _ h => List.mem_cons_of_mem _ (List.mem_append_right _ h)
set_option maxRecDepth 20000 in
theorem gX10_kept__X10_asksRow_V421 : GoodIn uX10_kept (wsV RX10 421 RX10 yX10_asksRow uX10_asksRow) := goodIn_p _ [5, 8, 12, 16] rfl (by decide +kernel)
set_option maxRecDepth 20000 in
theorem gX10_kept__X10_isLuckyAt_V424 : GoodIn uX10_kept (wsV RX10 424 RX10 yX10_isLuckyAt uX10_isLuckyAt) := goodIn_p _ [22, 27, 12, 31] rfl (by decide +kernel)
set_option maxHeartbeats 4000000 in
set_option maxRecDepth 100000 in
theorem kX10_kept (l : Launch) (dC : Nat → ClassId) (dI : Nat → Nat → Nat) (o0 : Nat) (x_th : Int32) (mwo : Nat) (mim : Nat) (mhi : Nat) (mlu : Nat) (mtp : Nat) (x_td : Int32) (mfv : Nat) (x_sz : Int32) (x_at : Int32) (x_fr : Int32) (x_to : Int32) (x_va : Int32) (x_fk : Int32) (x_fp : Int32) (mfr : Nat) (mwt : Nat) (x_wt : Int32) (x_op : Int32) (x_jo : Int32) (mfg : Nat) (mpl : Nat) (x_dr : Int64) (mtm : Nat) (mfa : Nat) (mqu : Nat) (mmo : Nat) (mwy : Nat) (mwn : Nat) (mma : Nat) (mwi : Nat) (mnu : Nat) (mmv : Nat) (c_wo : ClassId) (c_lu : ClassId) (c_nu : ClassId) (c_ma : ClassId) (w_wo : Nat → Int32) (w_lu : Nat → Int32) (w_nu : Nat → Int64) (w_ma : Nat → Int32) (ln : Int32) (bs : Int32) (tk : Int32) (lw : Int32) (li : Int32) (a1 : Int32) (a2 : Int32) (b_ln : (0 : Int) ≤ ln.toInt ∧ ln.toInt ≤ 12) (b_bs : (0 : Int) ≤ bs.toInt ∧ bs.toInt ≤ 16) (b_tk : (0 : Int) ≤ tk.toInt ∧ tk.toInt ≤ 20000) (b_lw : (0 : Int) ≤ lw.toInt ∧ lw.toInt ≤ 9) (ha_mma : rg w_ma 4 (-1) 60) (hw0 : w_wo 0 = ln) (hw1 : w_wo 1 = bs) (hw2 : w_wo 2 = tk) (hw3 : w_wo 3 = lw) (hw4 : w_wo 4 = li) (hwz : (ln.toInt = 0 ∧ bs.toInt = 0 ∧ tk.toInt = 0 ∧ lw.toInt = 0) ∨ (1 ≤ ln.toInt ∧ 2 ≤ bs.toInt ∧ 1 ≤ tk.toInt)) : Met l yX10_kept uX10_kept ({ frames := 3, cells := 0, slots := 0, locals := 72 }) (va_Pc [.ref o0, .int a1, .int a2] (pw (dC, dI) vwCl [(o0, .inr (8, [.int x_th, .ref mwo, .ref mim, .ref mhi, .ref mlu, .ref mtp, .int x_td, .ref mfv, .int x_sz, .int x_at, .int x_fr, .int x_to, .int x_va, .int x_fk, .int x_fp, .ref mfr, .ref mwt, .int x_wt, .int x_op, .int x_jo, .ref mfg, .ref mpl, .long x_dr, .ref mtm, .ref mfa, .ref mqu, .ref mmo, .ref mwy, .ref mwn, .ref mma, .ref mwi, .ref mnu, .ref mmv])), (mwo, .inl (c_wo, 1875, .inl w_wo)), (mlu, .inl (c_lu, 20000, .inl w_lu)), (mnu, .inl (c_nu, 240, .inr (.inl w_nu))), (mma, .inl (c_ma, 4, .inl w_ma))] [(c_wo, .int), (c_lu, .int), (c_nu, .long), (c_ma, .int)])) (vp_Si (fun r => True)) 0 0 (fun _ => False) := by
  refine Met.ofW (cc := cX10_kept) (maxL := 8) (ret := (some .int)) (by decide) rfl ?_
  intro p e s m args below meth c s₁ B hml hv
  obtain ⟨rfl, hP, hK, hN⟩ := hv
  have hx := B.exec
  have hb := B.bytes
  have hr := B.returns
  have hts := atoms_spec (ws := uX10_kept) B.pre
  have hown : s.vm.findClass RX10 = some m.cls := findClass_of_methodNamed B.named
  have hlocks := B.notSynchronized
  have hl := lv_entry ([.ref o0, .int a1, .int a2]) (n := 8) (Nat.le_of_ble_eq_true rfl)
  rw [lg_entry_eq]
  generalize (lg_sl ([.ref o0, .int a1, .int a2]) ++ List.replicate (8 - (lg_sl ([.ref o0, .int a1, .int a2])).length) Slot.unset).toArray = ls at hl ⊢
  have hl : lv_has ls 8 [(0, .ref o0), (1, .int a1), (2, .int a2)] := hl
  refine lv_aload_n hx hb dX10_kept_0 rfl (lv_at hl 0 rfl) ?_
  refine lv_iload_n hx hb dX10_kept_1 rfl (lv_at hl 1 rfl) ?_
  refine lv_iload_n hx hb dX10_kept_2 rfl (lv_at hl 2 rfl) ?_
  refine vp_callSi (W.runV (As := [.int a1, .int a2]) (rest := []) ⟨hx, hb, hml, hown, hts⟩ (kX10_asksRow l dC dI o0 x_th mwo mim mhi mlu mtp x_td mfv x_sz x_at x_fr x_to x_va x_fk x_fp mfr mwt x_wt x_op x_jo mfg mpl x_dr mtm mfa mqu mmo mwy mwn mma mwi mnu mmv c_wo c_ma w_wo w_ma ln bs tk lw li a1 a2 b_ln b_bs b_tk b_lw ha_mma (hw0) (hw1) (hw2) (hw3) (hw4) (hwz)) (cwV 2 hts gX10_kept__X10_asksRow_V421 rfl rfl rfl (by decide +kernel) ⟨lel 3 3 rfl, lel 68 72 rfl⟩) ⟨pw_fb, va_recv hK hP (ci := 8) (q0 := 0) rfl rfl, (pw_use hP hK hN [0, 1, 4] rfl [0, 3] rfl)⟩ rfl rfl hl.1 rfl (lv_room (Nat.le_of_ble_eq_true rfl)) dX10_kept_3 ⟨lel 0 0 rfl, lel 0 0 rfl⟩) (fun r_2949 h_r_2949 => ?_)
  obtain ⟨b_r_2949, zz_r_2949⟩ := h_r_2949
  have b_r_2949 : (-6 : Int) ≤ r_2949.toInt ∧ r_2949.toInt ≤ 0 := b_r_2949
  refine lv_istore_n (lv' := [(3, .int r_2949), (0, .ref o0), (1, .int a1), (2, .int a2)]) hx hb dX10_kept_6 rfl hl (by decide) rfl (fun ls hl => ?_)
  refine lv_iload_n hx hb dX10_kept_7 rfl (lv_at hl 0 rfl) ?_
  refine lv_if_ge (tgt := 13) hx hb dX10_kept_8 (by decide) (fun c_2950 => ?_) (fun c_2950 => ?_)
  ·
    have n_c_2950 : (0 : Int) ≤ r_2949.toInt := c_ge rfl (by decide) c_2950
    have b_r_2949 : (0 : Int) ≤ r_2949.toInt ∧ r_2949.toInt ≤ 0 := r_le2 (by decide : (0 : Int) ≤ (0 : Int32).toInt ∧ (0 : Int32).toInt ≤ 0) b_r_2949 n_c_2950 (by decide)
    obtain ⟨b_a1, b_a2, g_2951⟩ := zz_r_2949 (ti_z b_r_2949)
    refine lv_iconst (v := 0) hx hb dX10_kept_13 (by decide) ?_
    refine lv_istore (lv' := [(4, .int 0), (3, .int r_2949), (0, .ref o0), (1, .int a1), (2, .int a2)]) hx hb dX10_kept_14 hl (by decide) rfl (fun ls hl => ?_)
    refine lv_iconst (v := 0) hx hb dX10_kept_16 (by decide) ?_
    refine lv_istore (lv' := [(5, .int 0), (4, .int 0), (3, .int r_2949), (0, .ref o0), (1, .int a1), (2, .int a2)]) hx hb dX10_kept_17 hl (by decide) rfl (fun ls hl => ?_)
    refine loopP (σ := Int32 × Int32) (fun v => (60 - v.1.toInt).toNat) (fun v ls => ((0 : Int) ≤ v.1.toInt ∧ v.1.toInt ≤ 60) ∧ lv_has ls 8 [(5, .int v.1), (4, .int v.2), (3, .int r_2949), (0, .ref o0), (1, .int a1), (2, .int a2)]) (fun v ls hI ih_19_5691 => ?_) ((0 : Int32), (0 : Int32)) ⟨(show (0 : Int) ≤ (0 : Int32).toInt ∧ (0 : Int32).toInt ≤ 60 from (rg_w (by decide : (0 : Int) ≤ (0 : Int32).toInt ∧ (0 : Int32).toInt ≤ 0) (by decide) (by decide))), lv_sub hl [0, 1, 2, 3, 4, 5] rfl⟩
    obtain ⟨y_2965, y_2966⟩ := v
    obtain ⟨b_y_2965, hl⟩ := hI
    have b_y_2965 : (0 : Int) ≤ y_2965.toInt ∧ y_2965.toInt ≤ 60 := b_y_2965
    have hl : lv_has ls 8 [(5, .int y_2965), (4, .int y_2966), (3, .int r_2949), (0, .ref o0), (1, .int a1), (2, .int a2)] := hl
    refine lv_iload hx hb dX10_kept_19 (lv_at hl 0 rfl) ?_
    refine lv_aload_n hx hb dX10_kept_21 rfl (lv_at hl 3 rfl) ?_
    refine va_get (D := (dC, dI)) (ci := 8) (v := .ref mma) (C := RX10) (T := TX10) (N := 33) hx hb hts iX10_kept_X10 hown hK hP 0 rfl rfl 29 (by decide) (hts (.fieldLink RX10 65 "LuckyTicketModel" "many" "[I") (List.mem_of_getElem? (i := 18) rfl)) (fun _ h9 => h9) rfl dX10_kept_22 ?_
    refine lv_iload_n hx hb dX10_kept_25 rfl (lv_at hl 4 rfl) ?_
    refine va_iald hx hb hK hP 4 3 rfl rfl (vp_in_b b_a1 (by decide) (by decide)) dX10_kept_26 ?_
    refine lv_topi (fun z_5692 e_z_5692 => ?_)
    have b_z_5692 : (-1 : Int) ≤ z_5692.toInt ∧ z_5692.toInt ≤ 60 := rg_at ha_mma (vp_in_b b_a1 (by decide) (by decide)) e_z_5692
    refine lv_icmp_ge (tgt := 117) hx hb dX10_kept_27 (by decide) (fun c_5693 => ?_) (fun c_5693 => ?_)
    ·
      have n_c_5693 : (z_5692.toInt : Int) ≤ y_2965.toInt := c_ge rfl rfl c_5693
      refine lv_iload hx hb dX10_kept_117 (lv_at hl 1 rfl) ?_
      exact W.iret (v := y_2966) hx hb hr (fun t ht hW => ⟨y_2966, rfl, trivial, ht⟩) t_nil dX10_kept_119
    ·
      have n_c_5693 : (y_2965.toInt : Int) < z_5692.toInt := c_nge rfl rfl c_5693
      have b_y_2965 : (0 : Int) ≤ y_2965.toInt ∧ y_2965.toInt ≤ 59 := r_lt1 b_y_2965 b_z_5692 n_c_5693 (by decide)
      have b_z_5692 : (1 : Int) ≤ z_5692.toInt ∧ z_5692.toInt ≤ 60 := r_lt2 b_y_2965 b_z_5692 n_c_5693 (by decide)
      refine lv_aload_n hx hb dX10_kept_30 rfl (lv_at hl 3 rfl) ?_
      refine lv_iload_n hx hb dX10_kept_31 rfl (lv_at hl 4 rfl) ?_
      refine lv_iload hx hb dX10_kept_32 (lv_at hl 0 rfl) ?_
      refine lv_iload_n hx hb dX10_kept_34 rfl (lv_at hl 5 rfl) ?_
      refine vp_callSi (W.runV (As := [.int a1, .int y_2965, .int a2]) (rest := []) ⟨hx, hb, hml, hown, hts⟩ (kX10_isLuckyAt l dC dI o0 x_th mwo mim mhi mlu mtp x_td mfv x_sz x_at x_fr x_to x_va x_fk x_fp mfr mwt x_wt x_op x_jo mfg mpl x_dr mtm mfa mqu mmo mwy mwn mma mwi mnu mmv c_wo c_lu c_nu w_wo w_lu w_nu ln bs tk lw li a1 y_2965 a2 b_ln b_bs b_tk b_lw b_a1 b_y_2965 (hw0) (hw1) (hw2) (hw3) (hw4) (hwz)) (cwV 3 hts gX10_kept__X10_isLuckyAt_V424 rfl rfl rfl (by decide +kernel) ⟨lel 3 3 rfl, lel 72 72 rfl⟩) ⟨pw_fb, va_recv hK hP (ci := 8) (q0 := 0) rfl rfl, (pw_use hP hK hN [0, 1, 2, 3] rfl [0, 1, 2] rfl)⟩ rfl rfl hl.1 rfl (lv_room (Nat.le_of_ble_eq_true rfl)) dX10_kept_35 ⟨lel 0 0 rfl, lel 0 0 rfl⟩) (fun r_5694 h_r_5694 => ?_)
      have b_r_5694 := h_r_5694
      have b_r_5694 : (0 : Int) ≤ r_5694.toInt ∧ r_5694.toInt ≤ 1 := b_r_5694
      refine lv_istore (lv' := [(6, .int r_5694), (5, .int y_2965), (4, .int y_2966), (3, .int r_2949), (0, .ref o0), (1, .int a1), (2, .int a2)]) hx hb dX10_kept_38 hl (by decide) rfl (fun ls hl => ?_)
      refine lv_iconst (v := 0) hx hb dX10_kept_40 (by decide) ?_
      refine lv_istore (lv' := [(7, .int 0), (6, .int r_5694), (5, .int y_2965), (4, .int y_2966), (3, .int r_2949), (0, .ref o0), (1, .int a1), (2, .int a2)]) hx hb dX10_kept_41 hl (by decide) rfl (fun ls hl => ?_)
      refine loopP (σ := Int32 × Int32) (fun v => (59 - v.1.toInt).toNat) (fun v ls => ((0 : Int) ≤ v.1.toInt ∧ v.1.toInt ≤ 59) ∧ ((0 : Int) ≤ v.2.toInt ∧ v.2.toInt ≤ 1) ∧ lv_has ls 8 [(7, .int v.1), (6, .int v.2), (5, .int y_2965), (4, .int y_2966), (3, .int r_2949), (0, .ref o0), (1, .int a1), (2, .int a2)]) (fun v ls hI ih_43_5871 => ?_) ((0 : Int32), r_5694) ⟨(show (0 : Int) ≤ (0 : Int32).toInt ∧ (0 : Int32).toInt ≤ 59 from (rg_w (by decide : (0 : Int) ≤ (0 : Int32).toInt ∧ (0 : Int32).toInt ≤ 0) (by decide) (by decide))), (show (0 : Int) ≤ r_5694.toInt ∧ r_5694.toInt ≤ 1 from b_r_5694), lv_sub hl [0, 1, 2, 3, 4, 5, 6, 7] rfl⟩
      obtain ⟨y_5720, y_5721⟩ := v
      obtain ⟨b_y_5720, b_y_5721, hl⟩ := hI
      have b_y_5720 : (0 : Int) ≤ y_5720.toInt ∧ y_5720.toInt ≤ 59 := b_y_5720
      have b_y_5721 : (0 : Int) ≤ y_5721.toInt ∧ y_5721.toInt ≤ 1 := b_y_5721
      have hl : lv_has ls 8 [(7, .int y_5720), (6, .int y_5721), (5, .int y_2965), (4, .int y_2966), (3, .int r_2949), (0, .ref o0), (1, .int a1), (2, .int a2)] := hl
      refine lv_iload hx hb dX10_kept_43 (lv_at hl 0 rfl) ?_
      refine lv_iload hx hb dX10_kept_45 (lv_at hl 2 rfl) ?_
      refine cutP (σ := Unit) (pc2 := 96) (st2 := fun v => []) (cells2 := 0) (slots2 := 0) (fun v ls => lv_has ls 8 [(7, .int y_5720), (6, .int y_5721), (5, .int y_2965), (4, .int y_2966), (3, .int r_2949), (0, .ref o0), (1, .int a1), (2, .int a2)]) (fun v ls hI => ?_) (fun hj_96_5882 => ?_)
      ·
        have hl := hI
        have hl : lv_has ls 8 [(7, .int y_5720), (6, .int y_5721), (5, .int y_2965), (4, .int y_2966), (3, .int r_2949), (0, .ref o0), (1, .int a1), (2, .int a2)] := hl
        refine lv_iload hx hb dX10_kept_96 (lv_at hl 3 rfl) ?_
        refine lv_iload hx hb dX10_kept_98 (lv_at hl 1 rfl) ?_
        refine cutP (σ := Int32) (pc2 := 108) (st2 := fun v => [.int v, .int y_2966]) (cells2 := 0) (slots2 := 0) (fun v ls => ((0 : Int) ≤ v.toInt ∧ v.toInt ≤ 1) ∧ lv_has ls 8 [(7, .int y_5720), (6, .int y_5721), (5, .int y_2965), (4, .int y_2966), (3, .int r_2949), (0, .ref o0), (1, .int a1), (2, .int a2)]) (fun v ls hI => ?_) (fun hj_108_5884 => ?_)
        ·
          obtain ⟨y_5884, rfl⟩ : ∃ z, z = v := ⟨_, rfl⟩
          obtain ⟨b_y_5884, hl⟩ := hI
          have b_y_5884 : (0 : Int) ≤ y_5884.toInt ∧ y_5884.toInt ≤ 1 := b_y_5884
          have hl : lv_has ls 8 [(7, .int y_5720), (6, .int y_5721), (5, .int y_2965), (4, .int y_2966), (3, .int r_2949), (0, .ref o0), (1, .int a1), (2, .int a2)] := hl
          refine lv_iadd hx hb dX10_kept_108 ?_
          refine lv_topi (fun z_5885 e_z_5885 => ?_)
          refine lv_istore (lv' := [(4, .int z_5885), (7, .int y_5720), (6, .int y_5721), (5, .int y_2965), (3, .int r_2949), (0, .ref o0), (1, .int a1), (2, .int a2)]) hx hb dX10_kept_109 hl (by decide) rfl (fun ls hl => ?_)
          obtain ⟨z_5886, e_z_5886⟩ : ∃ y : Int32, y = y_2965 + 1 := ⟨_, rfl⟩
          refine lv_iinc (v := z_5886) (lv' := [(5, .int z_5886), (4, .int z_5885), (7, .int y_5720), (6, .int y_5721), (3, .int r_2949), (0, .ref o0), (1, .int a1), (2, .int a2)]) hx hb dX10_kept_111 hl (k := 3) rfl (by rw [e_z_5886]; rfl) (by decide) rfl (fun ls hl => ?_)
          obtain ⟨q_z_5886, b_z_5886⟩ := ti_add (lo := 1) (hi := 60) e_z_5886 rfl (by decide : (1 : Int32).toInt = 1) b_y_2965 (by decide : (1 : Int) ≤ (1 : Int32).toInt ∧ (1 : Int32).toInt ≤ 1) (by decide)
          refine lv_goto (tgt := 19) hx hb dX10_kept_114 (by decide) ?_
          exact ih_19_5691 (z_5886, z_5885) _ ⟨(show (0 : Int) ≤ z_5886.toInt ∧ z_5886.toInt ≤ 60 from (rg_w b_z_5886 (by decide) (by decide))), lv_sub hl [0, 1, 4, 5, 6, 7] rfl⟩ (show (60 - z_5886.toInt).toNat < (60 - y_2965.toInt).toNat by omega)
        ·
          refine lv_if_eq (tgt := 107) hx hb dX10_kept_100 (by decide) (fun c_5883 => ?_) (fun c_5883 => ?_)
          ·
            have n_c_5883 : (y_5721.toInt : Int) = 0 := c_eq rfl (by decide) c_5883
            have b_y_5721 : (0 : Int) ≤ y_5721.toInt ∧ y_5721.toInt ≤ 0 := r_eq1 b_y_5721 (by decide : (0 : Int) ≤ (0 : Int32).toInt ∧ (0 : Int32).toInt ≤ 0) n_c_5883 (by decide)
            refine lv_iconst (v := 0) hx hb dX10_kept_107 (by decide) ?_
            exact hj_108_5884 (0 : Int32) _ ⟨(show (0 : Int) ≤ (0 : Int32).toInt ∧ (0 : Int32).toInt ≤ 1 from (rg_w (by decide : (0 : Int) ≤ (0 : Int32).toInt ∧ (0 : Int32).toInt ≤ 0) (by decide) (by decide))), lv_sub hl [0, 1, 2, 3, 4, 5, 6, 7] rfl⟩
          ·
            have n_c_5883 : (y_5721.toInt : Int) ≠ 0 := c_ne rfl (by decide) c_5883
            have b_y_5721 : (1 : Int) ≤ y_5721.toInt ∧ y_5721.toInt ≤ 1 := r_ne1 b_y_5721 (by decide : (0 : Int) ≤ (0 : Int32).toInt ∧ (0 : Int32).toInt ≤ 0) n_c_5883 (by decide)
            refine lv_iconst (v := 1) hx hb dX10_kept_103 (by decide) ?_
            refine lv_goto (tgt := 108) hx hb dX10_kept_104 (by decide) ?_
            exact hj_108_5884 (1 : Int32) _ ⟨(show (0 : Int) ≤ (1 : Int32).toInt ∧ (1 : Int32).toInt ≤ 1 from (rg_w (by decide : (1 : Int) ≤ (1 : Int32).toInt ∧ (1 : Int32).toInt ≤ 1) (by decide) (by decide))), lv_sub hl [0, 1, 2, 3, 4, 5, 6, 7] rfl⟩
      ·
        refine lv_icmp_ge (tgt := 96) hx hb dX10_kept_47 (by decide) (fun c_5872 => ?_) (fun c_5872 => ?_)
        ·
          have n_c_5872 : (y_2965.toInt : Int) ≤ y_5720.toInt := c_ge rfl rfl c_5872
          exact hj_96_5882 () _ (lv_sub hl [0, 1, 2, 3, 4, 5, 6, 7] rfl)
        ·
          have n_c_5872 : (y_5720.toInt : Int) < y_2965.toInt := c_nge rfl rfl c_5872
          have b_y_5720 : (0 : Int) ≤ y_5720.toInt ∧ y_5720.toInt ≤ 58 := r_lt1 b_y_5720 b_y_2965 n_c_5872 (by decide)
          have b_y_2965 : (1 : Int) ≤ y_2965.toInt ∧ y_2965.toInt ≤ 59 := r_lt2 b_y_5720 b_y_2965 n_c_5872 (by decide)
          refine lv_iload hx hb dX10_kept_50 (lv_at hl 1 rfl) ?_
          refine lv_if_eq (tgt := 96) hx hb dX10_kept_52 (by decide) (fun c_5887 => ?_) (fun c_5887 => ?_)
          ·
            have n_c_5887 : (y_5721.toInt : Int) = 0 := c_eq rfl (by decide) c_5887
            have b_y_5721 : (0 : Int) ≤ y_5721.toInt ∧ y_5721.toInt ≤ 0 := r_eq1 b_y_5721 (by decide : (0 : Int) ≤ (0 : Int32).toInt ∧ (0 : Int32).toInt ≤ 0) n_c_5887 (by decide)
            exact hj_96_5882 () _ (lv_sub hl [0, 1, 2, 3, 4, 5, 6, 7] rfl)
          ·
            have n_c_5887 : (y_5721.toInt : Int) ≠ 0 := c_ne rfl (by decide) c_5887
            have b_y_5721 : (1 : Int) ≤ y_5721.toInt ∧ y_5721.toInt ≤ 1 := r_ne1 b_y_5721 (by decide : (0 : Int) ≤ (0 : Int32).toInt ∧ (0 : Int32).toInt ≤ 0) n_c_5887 (by decide)
            refine lv_aload_n hx hb dX10_kept_55 rfl (lv_at hl 5 rfl) ?_
            refine va_get (D := (dC, dI)) (ci := 8) (v := .ref mnu) (C := RX10) (T := TX10) (N := 33) hx hb hts iX10_kept_X10 hown hK hP 0 rfl rfl 31 (by decide) (hts (.fieldLink RX10 71 "LuckyTicketModel" "numbers" "[J") (List.mem_of_getElem? (i := 23) rfl)) (fun _ h9 => h9) rfl dX10_kept_56 ?_
            refine lv_bipush (v := 60) hx hb dX10_kept_59 (by decide) ?_
            refine lv_iload_n hx hb dX10_kept_61 rfl (lv_at hl 6 rfl) ?_
            refine lv_imul hx hb dX10_kept_62 ?_
            refine lv_topi (fun z_5888 e_z_5888 => ?_)
            obtain ⟨q_z_5888, b_z_5888⟩ := ti_mul (lo := 0) (hi := 180) e_z_5888 (by decide : (60 : Int32).toInt = 60) rfl (by decide : (60 : Int) ≤ (60 : Int32).toInt ∧ (60 : Int32).toInt ≤ 60) b_a1 (by decide)
            refine lv_iload hx hb dX10_kept_63 (lv_at hl 0 rfl) ?_
            refine lv_iadd hx hb dX10_kept_65 ?_
            refine lv_topi (fun z_5889 e_z_5889 => ?_)
            obtain ⟨q_z_5889, b_z_5889⟩ := ti_add (lo := 0) (hi := 238) e_z_5889 rfl rfl b_z_5888 b_y_5720 (by decide)
            refine va_lald hx hb hK hP 3 2 rfl rfl (vp_in_b b_z_5889 (by decide) (by decide)) dX10_kept_66 ?_
            refine lv_topl (fun z_5890 e_z_5890 => ?_)
            refine lv_aload_n hx hb dX10_kept_67 rfl (lv_at hl 5 rfl) ?_
            refine va_get (D := (dC, dI)) (ci := 8) (v := .ref mnu) (C := RX10) (T := TX10) (N := 33) hx hb hts iX10_kept_X10 hown hK hP 0 rfl rfl 31 (by decide) (hts (.fieldLink RX10 71 "LuckyTicketModel" "numbers" "[J") (List.mem_of_getElem? (i := 23) rfl)) (fun _ h9 => h9) rfl dX10_kept_68 ?_
            refine lv_bipush (v := 60) hx hb dX10_kept_71 (by decide) ?_
            refine lv_iload_n hx hb dX10_kept_73 rfl (lv_at hl 6 rfl) ?_
            refine lv_imul hx hb dX10_kept_74 ?_
            refine lv_topi (fun z_5891 e_z_5891 => ?_)
            obtain ⟨q_z_5891, b_z_5891⟩ := ti_mul (lo := 0) (hi := 180) e_z_5891 (by decide : (60 : Int32).toInt = 60) rfl (by decide : (60 : Int) ≤ (60 : Int32).toInt ∧ (60 : Int32).toInt ≤ 60) b_a1 (by decide)
            refine lv_iload hx hb dX10_kept_75 (lv_at hl 2 rfl) ?_
            refine lv_iadd hx hb dX10_kept_77 ?_
            refine lv_topi (fun z_5892 e_z_5892 => ?_)
            obtain ⟨q_z_5892, b_z_5892⟩ := ti_add (lo := 1) (hi := 239) e_z_5892 rfl rfl b_z_5891 b_y_2965 (by decide)
            refine va_lald hx hb hK hP 3 2 rfl rfl (vp_in_b b_z_5892 (by decide) (by decide)) dX10_kept_78 ?_
            refine lv_topl (fun z_5893 e_z_5893 => ?_)
            refine W.lcmp hx hb dX10_kept_79 ?_
            refine cutP (σ := Int32) (pc2 := 88) (st2 := fun v => [.int v]) (cells2 := 0) (slots2 := 0) (fun v ls => ((0 : Int) ≤ v.toInt ∧ v.toInt ≤ 1) ∧ lv_has ls 8 [(7, .int y_5720), (6, .int y_5721), (5, .int y_2965), (4, .int y_2966), (3, .int r_2949), (0, .ref o0), (1, .int a1), (2, .int a2)]) (fun v ls hI => ?_) (fun hj_88_5895 => ?_)
            ·
              obtain ⟨y_5895, rfl⟩ : ∃ z, z = v := ⟨_, rfl⟩
              obtain ⟨b_y_5895, hl⟩ := hI
              have b_y_5895 : (0 : Int) ≤ y_5895.toInt ∧ y_5895.toInt ≤ 1 := b_y_5895
              have hl : lv_has ls 8 [(7, .int y_5720), (6, .int y_5721), (5, .int y_2965), (4, .int y_2966), (3, .int r_2949), (0, .ref o0), (1, .int a1), (2, .int a2)] := hl
              refine lv_istore (lv' := [(6, .int y_5895), (7, .int y_5720), (5, .int y_2965), (4, .int y_2966), (3, .int r_2949), (0, .ref o0), (1, .int a1), (2, .int a2)]) hx hb dX10_kept_88 hl (by decide) rfl (fun ls hl => ?_)
              obtain ⟨z_5896, e_z_5896⟩ : ∃ y : Int32, y = y_5720 + 1 := ⟨_, rfl⟩
              refine lv_iinc (v := z_5896) (lv' := [(7, .int z_5896), (6, .int y_5895), (5, .int y_2965), (4, .int y_2966), (3, .int r_2949), (0, .ref o0), (1, .int a1), (2, .int a2)]) hx hb dX10_kept_90 hl (k := 1) rfl (by rw [e_z_5896]; rfl) (by decide) rfl (fun ls hl => ?_)
              obtain ⟨q_z_5896, b_z_5896⟩ := ti_add (lo := 1) (hi := 59) e_z_5896 rfl (by decide : (1 : Int32).toInt = 1) b_y_5720 (by decide : (1 : Int) ≤ (1 : Int32).toInt ∧ (1 : Int32).toInt ≤ 1) (by decide)
              refine lv_goto (tgt := 43) hx hb dX10_kept_93 (by decide) ?_
              exact ih_43_5871 (z_5896, y_5895) _ ⟨(show (0 : Int) ≤ z_5896.toInt ∧ z_5896.toInt ≤ 59 from (rg_w b_z_5896 (by decide) (by decide))), (show (0 : Int) ≤ y_5895.toInt ∧ y_5895.toInt ≤ 1 from b_y_5895), lv_sub hl [0, 1, 2, 3, 4, 5, 6, 7] rfl⟩ (show (59 - z_5896.toInt).toNat < (59 - y_5720.toInt).toNat by omega)
            ·
              refine lv_if_eq (tgt := 87) hx hb dX10_kept_80 (by decide) (fun c_5894 => ?_) (fun c_5894 => ?_)
              ·
                have n_c_5894 : (z_5890.toInt : Int) = z_5893.toInt := g_eq rfl rfl c_5894
                refine lv_iconst (v := 0) hx hb dX10_kept_87 (by decide) ?_
                exact hj_88_5895 (0 : Int32) _ ⟨(show (0 : Int) ≤ (0 : Int32).toInt ∧ (0 : Int32).toInt ≤ 1 from (rg_w (by decide : (0 : Int) ≤ (0 : Int32).toInt ∧ (0 : Int32).toInt ≤ 0) (by decide) (by decide))), lv_sub hl [0, 1, 2, 3, 4, 5, 6, 7] rfl⟩
              ·
                have n_c_5894 : (z_5890.toInt : Int) ≠ z_5893.toInt := g_ne rfl rfl c_5894
                refine lv_iconst (v := 1) hx hb dX10_kept_83 (by decide) ?_
                refine lv_goto (tgt := 88) hx hb dX10_kept_84 (by decide) ?_
                exact hj_88_5895 (1 : Int32) _ ⟨(show (0 : Int) ≤ (1 : Int32).toInt ∧ (1 : Int32).toInt ≤ 1 from (rg_w (by decide : (1 : Int) ≤ (1 : Int32).toInt ∧ (1 : Int32).toInt ≤ 1) (by decide) (by decide))), lv_sub hl [0, 1, 2, 3, 4, 5, 6, 7] rfl⟩
  ·
    have n_c_2950 : (r_2949.toInt : Int) < 0 := c_nge rfl (by decide) c_2950
    have b_r_2949 : (-6 : Int) ≤ r_2949.toInt ∧ r_2949.toInt ≤ -1 := r_lt1 b_r_2949 (by decide : (0 : Int) ≤ (0 : Int32).toInt ∧ (0 : Int32).toInt ≤ 0) n_c_2950 (by decide)
    refine lv_iload_n hx hb dX10_kept_11 rfl (lv_at hl 0 rfl) ?_
    exact W.iret (v := r_2949) hx hb hr (fun t ht hW => ⟨r_2949, rfl, trivial, ht⟩) t_nil dX10_kept_12
theorem dX10_have_0 : decode cX10_have 0 = .ok (.aload_n 0, 1) := by decide +kernel
theorem dX10_have_1 : decode cX10_have 1 = .ok (.iload_n 1, 1) := by decide +kernel
theorem dX10_have_2 : decode cX10_have 2 = .ok (.invokevirtual 89, 3) := by decide +kernel
theorem dX10_have_5 : decode cX10_have 5 = .ok (.ifCond .eq 7, 3) := by decide +kernel
theorem dX10_have_8 : decode cX10_have 8 = .ok (.iload_n 2, 1) := by decide +kernel
theorem dX10_have_9 : decode cX10_have 9 = .ok (.ifCond .ge 6, 3) := by decide +kernel
theorem dX10_have_12 : decode cX10_have 12 = .ok (.bipush (-2), 2) := by decide +kernel
theorem dX10_have_14 : decode cX10_have 14 = .ok (.ireturn, 1) := by decide +kernel
theorem dX10_have_15 : decode cX10_have 15 = .ok (.iconst 0, 1) := by decide +kernel
theorem dX10_have_16 : decode cX10_have 16 = .ok (.istore_n 3, 1) := by decide +kernel
theorem dX10_have_17 : decode cX10_have 17 = .ok (.iconst 0, 1) := by decide +kernel
theorem dX10_have_18 : decode cX10_have 18 = .ok (.istore 4, 2) := by decide +kernel
theorem dX10_have_20 : decode cX10_have 20 = .ok (.iload 4, 2) := by decide +kernel
theorem dX10_have_22 : decode cX10_have 22 = .ok (.aload_n 0, 1) := by decide +kernel
theorem dX10_have_23 : decode cX10_have 23 = .ok (.getfield 9, 3) := by decide +kernel
theorem dX10_have_26 : decode cX10_have 26 = .ok (.iconst 2, 1) := by decide +kernel
theorem dX10_have_27 : decode cX10_have 27 = .ok (.iaload, 1) := by decide +kernel
theorem dX10_have_28 : decode cX10_have 28 = .ok (.if_icmp .ge 48, 3) := by decide +kernel
theorem dX10_have_31 : decode cX10_have 31 = .ok (.aload_n 0, 1) := by decide +kernel
theorem dX10_have_32 : decode cX10_have 32 = .ok (.iload_n 1, 1) := by decide +kernel
theorem dX10_have_33 : decode cX10_have 33 = .ok (.iload 4, 2) := by decide +kernel
theorem dX10_have_35 : decode cX10_have 35 = .ok (.invokevirtual 316, 3) := by decide +kernel
theorem dX10_have_38 : decode cX10_have 38 = .ok (.ifCond .ne 6, 3) := by decide +kernel
theorem dX10_have_41 : decode cX10_have 41 = .ok (.goto 29, 3) := by decide +kernel
theorem dX10_have_44 : decode cX10_have 44 = .ok (.aload_n 0, 1) := by decide +kernel
theorem dX10_have_45 : decode cX10_have 45 = .ok (.iload 4, 2) := by decide +kernel
theorem dX10_have_47 : decode cX10_have 47 = .ok (.invokevirtual 302, 3) := by decide +kernel
theorem dX10_have_50 : decode cX10_have 50 = .ok (.iload_n 3, 1) := by decide +kernel
theorem dX10_have_51 : decode cX10_have 51 = .ok (.aload_n 0, 1) := by decide +kernel
theorem dX10_have_52 : decode cX10_have 52 = .ok (.aload_n 0, 1) := by decide +kernel
theorem dX10_have_53 : decode cX10_have 53 = .ok (.invokevirtual 277, 3) := by decide +kernel
theorem dX10_have_56 : decode cX10_have 56 = .ok (.invokevirtual 280, 3) := by decide +kernel
theorem dX10_have_59 : decode cX10_have 59 = .ok (.iload_n 2, 1) := by decide +kernel
theorem dX10_have_60 : decode cX10_have 60 = .ok (.if_icmp .ne 7, 3) := by decide +kernel
theorem dX10_have_63 : decode cX10_have 63 = .ok (.iconst 1, 1) := by decide +kernel
theorem dX10_have_64 : decode cX10_have 64 = .ok (.goto 4, 3) := by decide +kernel
theorem dX10_have_67 : decode cX10_have 67 = .ok (.iconst 0, 1) := by decide +kernel
theorem dX10_have_68 : decode cX10_have 68 = .ok (.iadd, 1) := by decide +kernel
theorem dX10_have_69 : decode cX10_have 69 = .ok (.istore_n 3, 1) := by decide +kernel
theorem dX10_have_70 : decode cX10_have 70 = .ok (.iinc 4 1, 3) := by decide +kernel
theorem dX10_have_73 : decode cX10_have 73 = .ok (.goto (-53), 3) := by decide +kernel
theorem dX10_have_76 : decode cX10_have 76 = .ok (.iload_n 3, 1) := by decide +kernel
theorem dX10_have_77 : decode cX10_have 77 = .ok (.ireturn, 1) := by decide +kernel
def uX10_have : List Cond := .code yX10_have cX10_have 5 (some .int) :: ([.methodLink RX10 89 yX10_isLaw, .instanceMethod yX10_isLaw, .selects RX10 yX10_isLaw yX10_isLaw, .initialized RX10, .code yX10_isLaw cX10_isLaw 2 (some .boolean), .fieldLink RX10 9 "LuckyTicketModel" "world" "[I", .methodLink RX10 82 yX10_in, .static yX10_in, .code yX10_in cX10_in 6 (some .boolean), .methodLink RX10 316 yX10_isLucky, .instanceMethod yX10_isLucky, .selects RX10 yX10_isLucky yX10_isLucky, .code yX10_isLucky cX10_isLucky 3 (some .boolean), .fieldLink RX10 20 "LuckyTicketModel" "luck" "[I", .methodLink RX10 302 yX10_fillFigures, .instanceMethod yX10_fillFigures, .selects RX10 yX10_fillFigures yX10_fillFigures, .code yX10_fillFigures cX10_fillFigures 4 none, .fieldLink RX10 40 "LuckyTicketModel" "figures" "[I", .methodLink RX10 277 yX10_all, .instanceMethod yX10_all, .selects RX10 yX10_all yX10_all, .code yX10_all cX10_all 1 (some .int), .methodLink RX10 280 yX10_sumOf, .instanceMethod yX10_sumOf, .selects RX10 yX10_sumOf yX10_sumOf, .code yX10_sumOf cX10_sumOf 4 (some .int)] ++ wsX100)
theorem iX10_have_X10 : ∀ w ∈ wsX100, w ∈ uX10_have := fun _ h => List.mem_cons_of_mem _ (List.mem_append_right _ h)
set_option maxRecDepth 20000 in
theorem gX10_have__X10_isLaw_V89 : GoodIn uX10_have (wsV RX10 89 RX10 yX10_isLaw uX10_isLaw) := goodIn_p _ [5, 9] rfl (by decide +kernel)
set_option maxRecDepth 20000 in
theorem gX10_have__X10_isLucky_V316 : GoodIn uX10_have (wsV RX10 316 RX10 yX10_isLucky uX10_isLucky) := goodIn_p _ [13] rfl (by decide +kernel)
set_option maxRecDepth 20000 in
theorem gX10_have__X10_fillFigures_V302 : GoodIn uX10_have (wsV RX10 302 RX10 yX10_fillFigures uX10_fillFigures) := goodIn_p _ [18] rfl (by decide +kernel)
set_option maxRecDepth 20000 in
theorem gX10_have__X10_all_V277 : GoodIn uX10_have (wsV RX10 277 RX10 yX10_all uX10_all) := goodIn_p _ [23] rfl (by decide +kernel)
set_option maxRecDepth 20000 in
theorem gX10_have__X10_sumOf_V280 : GoodIn uX10_have (wsV RX10 280 RX10 yX10_sumOf uX10_sumOf) := goodIn_p _ [27] rfl (by decide +kernel)
set_option maxHeartbeats 4000000 in
set_option maxRecDepth 100000 in
theorem kX10_have (l : Launch) (dC : Nat → ClassId) (dI : Nat → Nat → Nat) (o0 : Nat) (x_th : Int32) (mwo : Nat) (mim : Nat) (mhi : Nat) (mlu : Nat) (mtp : Nat) (x_td : Int32) (mfv : Nat) (x_sz : Int32) (x_at : Int32) (x_fr : Int32) (x_to : Int32) (x_va : Int32) (x_fk : Int32) (x_fp : Int32) (mfr : Nat) (mwt : Nat) (x_wt : Int32) (x_op : Int32) (x_jo : Int32) (mfg : Nat) (mpl : Nat) (x_dr : Int64) (mtm : Nat) (mfa : Nat) (mqu : Nat) (mmo : Nat) (mwy : Nat) (mwn : Nat) (mma : Nat) (mwi : Nat) (mnu : Nat) (mmv : Nat) (c_wo : ClassId) (c_lu : ClassId) (c_fg : ClassId) (w_wo : Nat → Int32) (w_lu : Nat → Int32) (w_fg : Nat → Int32) (ln : Int32) (bs : Int32) (tk : Int32) (lw : Int32) (li : Int32) (a1 : Int32) (a2 : Int32) (sz : Nat) (b_ln : (0 : Int) ≤ ln.toInt ∧ ln.toInt ≤ 12) (b_bs : (0 : Int) ≤ bs.toInt ∧ bs.toInt ≤ 16) (b_tk : (0 : Int) ≤ tk.toInt ∧ tk.toInt ≤ 20000) (b_lw : (0 : Int) ≤ lw.toInt ∧ lw.toInt ≤ 9) (ha_mfg : rg w_fg 12 0 15) (hw0 : w_wo 0 = ln) (hw1 : w_wo 1 = bs) (hw2 : w_wo 2 = tk) (hw3 : w_wo 3 = lw) (hw4 : w_wo 4 = li) (hwz : (ln.toInt = 0 ∧ bs.toInt = 0 ∧ tk.toInt = 0 ∧ lw.toInt = 0) ∨ (1 ≤ ln.toInt ∧ 2 ≤ bs.toInt ∧ 1 ≤ tk.toInt)) : Met l yX10_have uX10_have ({ frames := 2, cells := 0, slots := 0, locals := 46 }) (va_Pc [.ref o0, .int a1, .int a2] (hw (dC, dI) vwCl [(o0, .inr (8, [.int x_th, .ref mwo, .ref mim, .ref mhi, .ref mlu, .ref mtp, .int x_td, .ref mfv, .int x_sz, .int x_at, .int x_fr, .int x_to, .int x_va, .int x_fk, .int x_fp, .ref mfr, .ref mwt, .int x_wt, .int x_op, .int x_jo, .ref mfg, .ref mpl, .long x_dr, .ref mtm, .ref mfa, .ref mqu, .ref mmo, .ref mwy, .ref mwn, .ref mma, .ref mwi, .ref mnu, .ref mmv])), (mwo, .inl (c_wo, 1875, .inl w_wo)), (mlu, .inl (c_lu, 20000, .inl w_lu)), (mfg, .inl (c_fg, 12, .inl w_fg))] [(c_wo, .int), (c_lu, .int), (c_fg, .int)] sz)) (va_Qi (fun (r : Int32) (_ : Unit) => True) (fun (_ : Unit) t => ∃ (o0_ : Nat → Int32), (rg o0_ 12 0 15) ∧ va_P (dC, dI) vwCl [(o0, .inr (8, [.int x_th, .ref mwo, .ref mim, .ref mhi, .ref mlu, .ref mtp, .int x_td, .ref mfv, .int x_sz, .int x_at, .int x_fr, .int x_to, .int x_va, .int x_fk, .int x_fp, .ref mfr, .ref mwt, .int x_wt, .int x_op, .int x_jo, .ref mfg, .ref mpl, .long x_dr, .ref mtm, .ref mfa, .ref mqu, .ref mmo, .ref mwy, .ref mwn, .ref mma, .ref mwi, .ref mnu, .ref mmv])), (mwo, .inl (c_wo, 1875, .inl w_wo)), (mlu, .inl (c_lu, 20000, .inl w_lu)), (mfg, .inl (c_fg, 12, .inl o0_))] t.heap ∧ va_K (dC, dI) vwCl [(c_wo, .int), (c_lu, .int), (c_fg, .int)] t ∧ va_D (va_A [(o0, .inr (8, [.int x_th, .ref mwo, .ref mim, .ref mhi, .ref mlu, .ref mtp, .int x_td, .ref mfv, .int x_sz, .int x_at, .int x_fr, .int x_to, .int x_va, .int x_fk, .int x_fp, .ref mfr, .ref mwt, .int x_wt, .int x_op, .int x_jo, .ref mfg, .ref mpl, .long x_dr, .ref mtm, .ref mfa, .ref mqu, .ref mmo, .ref mwy, .ref mwn, .ref mma, .ref mwi, .ref mnu, .ref mmv])), (mwo, .inl (c_wo, 1875, .inl w_wo)), (mlu, .inl (c_lu, 20000, .inl w_lu)), (mfg, .inl (c_fg, 12, .inl w_fg))] sz) [(o0, .inr (8, [.int x_th, .ref mwo, .ref mim, .ref mhi, .ref mlu, .ref mtp, .int x_td, .ref mfv, .int x_sz, .int x_at, .int x_fr, .int x_to, .int x_va, .int x_fk, .int x_fp, .ref mfr, .ref mwt, .int x_wt, .int x_op, .int x_jo, .ref mfg, .ref mpl, .long x_dr, .ref mtm, .ref mfa, .ref mqu, .ref mmo, .ref mwy, .ref mwn, .ref mma, .ref mwi, .ref mnu, .ref mmv])), (mwo, .inl (c_wo, 1875, .inl w_wo)), (mlu, .inl (c_lu, 20000, .inl w_lu)), (mfg, .inl (c_fg, 12, .inl o0_))]) (va_A [(o0, .inr (8, [.int x_th, .ref mwo, .ref mim, .ref mhi, .ref mlu, .ref mtp, .int x_td, .ref mfv, .int x_sz, .int x_at, .int x_fr, .int x_to, .int x_va, .int x_fk, .int x_fp, .ref mfr, .ref mwt, .int x_wt, .int x_op, .int x_jo, .ref mfg, .ref mpl, .long x_dr, .ref mtm, .ref mfa, .ref mqu, .ref mmo, .ref mwy, .ref mwn, .ref mma, .ref mwi, .ref mnu, .ref mmv])), (mwo, .inl (c_wo, 1875, .inl w_wo)), (mlu, .inl (c_lu, 20000, .inl w_lu)), (mfg, .inl (c_fg, 12, .inl w_fg))] sz)) 0 0 (va_A [(o0, .inr (8, [.int x_th, .ref mwo, .ref mim, .ref mhi, .ref mlu, .ref mtp, .int x_td, .ref mfv, .int x_sz, .int x_at, .int x_fr, .int x_to, .int x_va, .int x_fk, .int x_fp, .ref mfr, .ref mwt, .int x_wt, .int x_op, .int x_jo, .ref mfg, .ref mpl, .long x_dr, .ref mtm, .ref mfa, .ref mqu, .ref mmo, .ref mwy, .ref mwn, .ref mma, .ref mwi, .ref mnu, .ref mmv])), (mwo, .inl (c_wo, 1875, .inl w_wo)), (mlu, .inl (c_lu, 20000, .inl w_lu)), (mfg, .inl (c_fg, 12, .inl w_fg))] sz) := by
  refine Met.ofW (cc := cX10_have) (maxL := 5) (ret := (some .int)) (by decide) rfl ?_
  intro p e s m args below meth c s₁ B hml hv
  obtain ⟨rfl, hsz, hP, hK, hD0, hN⟩ := hv
  have hx := B.exec
  have hb := B.bytes
  have hr := B.returns
  have hts := atoms_spec (ws := uX10_have) B.pre
  have hown : s.vm.findClass RX10 = some m.cls := findClass_of_methodNamed B.named
  have hlocks := B.notSynchronized
  subst hsz
  have hD := hD0.self (sz := s.heap.size)
  generalize hAe : va_A [(o0, .inr (8, [.int x_th, .ref mwo, .ref mim, .ref mhi, .ref mlu, .ref mtp, .int x_td, .ref mfv, .int x_sz, .int x_at, .int x_fr, .int x_to, .int x_va, .int x_fk, .int x_fp, .ref mfr, .ref mwt, .int x_wt, .int x_op, .int x_jo, .ref mfg, .ref mpl, .long x_dr, .ref mtm, .ref mfa, .ref mqu, .ref mmo, .ref mwy, .ref mwn, .ref mma, .ref mwi, .ref mnu, .ref mmv])), (mwo, .inl (c_wo, 1875, .inl w_wo)), (mlu, .inl (c_lu, 20000, .inl w_lu)), (mfg, .inl (c_fg, 12, .inl w_fg))] s.heap.size = A at hD ⊢
  have hA : ∀ q : Nat, s.heap.size ≤ q → A q := fun q h => by rw [← hAe]; exact Or.inr h
  have hS : va_S A s.heap s.heap [] := va_S.rf
  have hP : va_P (dC, dI) vwCl [(o0, .inr (8, [.int x_th, .ref mwo, .ref mim, .ref mhi, .ref mlu, .ref mtp, .int x_td, .ref mfv, .int x_sz, .int x_at, .int x_fr, .int x_to, .int x_va, .int x_fk, .int x_fp, .ref mfr, .ref mwt, .int x_wt, .int x_op, .int x_jo, .ref mfg, .ref mpl, .long x_dr, .ref mtm, .ref mfa, .ref mqu, .ref mmo, .ref mwy, .ref mwn, .ref mma, .ref mwi, .ref mnu, .ref mmv])), (mwo, .inl (c_wo, 1875, .inl w_wo)), (mlu, .inl (c_lu, 20000, .inl w_lu)), (mfg, .inl (c_fg, 12, .inl w_fg))] s.heap := hP
  have hl := lv_entry ([.ref o0, .int a1, .int a2]) (n := 5) (Nat.le_of_ble_eq_true rfl)
  rw [lg_entry_eq]
  generalize (lg_sl ([.ref o0, .int a1, .int a2]) ++ List.replicate (5 - (lg_sl ([.ref o0, .int a1, .int a2])).length) Slot.unset).toArray = ls at hl ⊢
  have hl : lv_has ls 5 [(0, .ref o0), (1, .int a1), (2, .int a2)] := hl
  refine lv_aload_n hx hb dX10_have_0 rfl (lv_at hl 0 rfl) ?_
  refine lv_iload_n hx hb dX10_have_1 rfl (lv_at hl 1 rfl) ?_
  refine vp_callSi (W.runV (As := [.int a1]) (rest := []) ⟨hx, hb, hml, hown, hts⟩ (kX10_isLaw l dC dI o0 x_th mwo mim mhi mlu mtp x_td mfv x_sz x_at x_fr x_to x_va x_fk x_fp mfr mwt x_wt x_op x_jo mfg mpl x_dr mtm mfa mqu mmo mwy mwn mma mwi mnu mmv c_wo w_wo ln bs tk lw li a1 b_ln b_bs b_tk b_lw (hw0) (hw1) (hw2) (hw3) (hw4) (hwz)) (cwV 1 hts gX10_have__X10_isLaw_V89 rfl rfl rfl (by decide +kernel) ⟨lel 2 2 rfl, lel 46 46 rfl⟩) ⟨pw_fb, va_recv hK hP (ci := 8) (q0 := 0) rfl rfl, (pw_use hP hK hN [0, 1] rfl [0] rfl)⟩ rfl rfl hl.1 rfl (lv_room (Nat.le_of_ble_eq_true rfl)) dX10_have_2 ⟨lel 0 0 rfl, lel 0 0 rfl⟩) (fun r_433 h_r_433 => ?_)
  obtain ⟨b_r_433, nz_r_433⟩ := h_r_433
  have b_r_433 : (0 : Int) ≤ r_433.toInt ∧ r_433.toInt ≤ 1 := b_r_433
  refine lv_if_eq (tgt := 12) hx hb dX10_have_5 (by decide) (fun c_434 => ?_) (fun c_434 => ?_)
  ·
    have n_c_434 : (r_433.toInt : Int) = 0 := c_eq rfl (by decide) c_434
    have b_r_433 : (0 : Int) ≤ r_433.toInt ∧ r_433.toInt ≤ 0 := r_eq1 b_r_433 (by decide : (0 : Int) ≤ (0 : Int32).toInt ∧ (0 : Int32).toInt ≤ 0) n_c_434 (by decide)
    refine lv_bipush (v := (-2)) hx hb dX10_have_12 (by decide) ?_
    have hP9 := hP.sub (ws' := [(o0, .inr (8, [.int x_th, .ref mwo, .ref mim, .ref mhi, .ref mlu, .ref mtp, .int x_td, .ref mfv, .int x_sz, .int x_at, .int x_fr, .int x_to, .int x_va, .int x_fk, .int x_fp, .ref mfr, .ref mwt, .int x_wt, .int x_op, .int x_jo, .ref mfg, .ref mpl, .long x_dr, .ref mtm, .ref mfa, .ref mqu, .ref mmo, .ref mwy, .ref mwn, .ref mma, .ref mwi, .ref mnu, .ref mmv])), (mwo, .inl (c_wo, 1875, .inl w_wo)), (mlu, .inl (c_lu, 20000, .inl w_lu)), (mfg, .inl (c_fg, 12, .inl w_fg))]) [0, 1, 2, 3] rfl
    have hD9 := hD.sub (ws' := [(o0, .inr (8, [.int x_th, .ref mwo, .ref mim, .ref mhi, .ref mlu, .ref mtp, .int x_td, .ref mfv, .int x_sz, .int x_at, .int x_fr, .int x_to, .int x_va, .int x_fk, .int x_fp, .ref mfr, .ref mwt, .int x_wt, .int x_op, .int x_jo, .ref mfg, .ref mpl, .long x_dr, .ref mtm, .ref mfa, .ref mqu, .ref mmo, .ref mwy, .ref mwn, .ref mma, .ref mwi, .ref mnu, .ref mmv])), (mwo, .inl (c_wo, 1875, .inl w_wo)), (mlu, .inl (c_lu, 20000, .inl w_lu)), (mfg, .inl (c_fg, 12, .inl w_fg))]) [0, 1, 2, 3] (by decide) rfl
    have hK9 := hK.sub (tys' := [(c_wo, .int), (c_lu, .int), (c_fg, .int)]) [0, 1, 2] rfl
    exact W.iret (v := (-2)) hx hb hr (fun t ht hW => ⟨⟨(-2), (), rfl, trivial, w_fg, ha_mfg, by rw [ht]; exact hP9, va_K.moved hW.alike hK9, hD9⟩, hS.F ht⟩) hS.2.2 dX10_have_14
  ·
    have n_c_434 : (r_433.toInt : Int) ≠ 0 := c_ne rfl (by decide) c_434
    have b_r_433 : (1 : Int) ≤ r_433.toInt ∧ r_433.toInt ≤ 1 := r_ne1 b_r_433 (by decide : (0 : Int) ≤ (0 : Int32).toInt ∧ (0 : Int32).toInt ≤ 0) n_c_434 (by decide)
    obtain ⟨b_a1, g_435⟩ := nz_r_433 c_434
    refine lv_iload_n hx hb dX10_have_8 rfl (lv_at hl 2 rfl) ?_
    refine lv_if_ge (tgt := 15) hx hb dX10_have_9 (by decide) (fun c_436 => ?_) (fun c_436 => ?_)
    ·
      have n_c_436 : (0 : Int) ≤ a2.toInt := c_ge rfl (by decide) c_436
      have b_a2 : (0 : Int) ≤ a2.toInt ∧ a2.toInt ≤ 2147483647 := r_le2 (by decide : (0 : Int) ≤ (0 : Int32).toInt ∧ (0 : Int32).toInt ≤ 0) (ti_rng a2) n_c_436 (by decide)
      refine lv_iconst (v := 0) hx hb dX10_have_15 (by decide) ?_
      refine lv_istore_n (lv' := [(3, .int 0), (0, .ref o0), (1, .int a1), (2, .int a2)]) hx hb dX10_have_16 rfl hl (by decide) rfl (fun ls hl => ?_)
      refine lv_iconst (v := 0) hx hb dX10_have_17 (by decide) ?_
      refine lv_istore (lv' := [(4, .int 0), (3, .int 0), (0, .ref o0), (1, .int a1), (2, .int a2)]) hx hb dX10_have_18 hl (by decide) rfl (fun ls hl => ?_)
      refine loopW (σ := Int32 × Int32 × (Nat → Int32)) (fun v => (20000 - v.1.toInt).toNat) (fun v H locs ls => ((0 : Int) ≤ v.1.toInt ∧ v.1.toInt ≤ 20000) ∧ (rg v.2.2 12 0 15) ∧ va_P (dC, dI) vwCl [(o0, .inr (8, [.int x_th, .ref mwo, .ref mim, .ref mhi, .ref mlu, .ref mtp, .int x_td, .ref mfv, .int x_sz, .int x_at, .int x_fr, .int x_to, .int x_va, .int x_fk, .int x_fp, .ref mfr, .ref mwt, .int x_wt, .int x_op, .int x_jo, .ref mfg, .ref mpl, .long x_dr, .ref mtm, .ref mfa, .ref mqu, .ref mmo, .ref mwy, .ref mwn, .ref mma, .ref mwi, .ref mnu, .ref mmv])), (mwo, .inl (c_wo, 1875, .inl w_wo)), (mlu, .inl (c_lu, 20000, .inl w_lu)), (mfg, .inl (c_fg, 12, .inl v.2.2))] H ∧ va_D A [(o0, .inr (8, [.int x_th, .ref mwo, .ref mim, .ref mhi, .ref mlu, .ref mtp, .int x_td, .ref mfv, .int x_sz, .int x_at, .int x_fr, .int x_to, .int x_va, .int x_fk, .int x_fp, .ref mfr, .ref mwt, .int x_wt, .int x_op, .int x_jo, .ref mfg, .ref mpl, .long x_dr, .ref mtm, .ref mfa, .ref mqu, .ref mmo, .ref mwy, .ref mwn, .ref mma, .ref mwi, .ref mnu, .ref mmv])), (mwo, .inl (c_wo, 1875, .inl w_wo)), (mlu, .inl (c_lu, 20000, .inl w_lu)), (mfg, .inl (c_fg, 12, .inl v.2.2))] ∧ va_S A s.heap H locs ∧ lv_has ls 5 [(4, .int v.1), (3, .int v.2.1), (0, .ref o0), (1, .int a1), (2, .int a2)]) (fun v H locs ls hI ih_20_839 => ?_) ((0 : Int32), (0 : Int32), w_fg) ⟨(show (0 : Int) ≤ (0 : Int32).toInt ∧ (0 : Int32).toInt ≤ 20000 from (rg_w (by decide : (0 : Int) ≤ (0 : Int32).toInt ∧ (0 : Int32).toInt ≤ 0) (by decide) (by decide))), (show rg w_fg 12 0 15 from ha_mfg), hP, hD, hS, lv_sub hl [0, 1, 2, 3, 4] rfl⟩
      obtain ⟨y_462, y_463, f_464⟩ := v
      obtain ⟨b_y_462, ha_f_464, hP, hD, hS, hl⟩ := hI
      have b_y_462 : (0 : Int) ≤ y_462.toInt ∧ y_462.toInt ≤ 20000 := b_y_462
      have ha_f_464 : rg f_464 12 0 15 := ha_f_464
      have hP : va_P (dC, dI) vwCl [(o0, .inr (8, [.int x_th, .ref mwo, .ref mim, .ref mhi, .ref mlu, .ref mtp, .int x_td, .ref mfv, .int x_sz, .int x_at, .int x_fr, .int x_to, .int x_va, .int x_fk, .int x_fp, .ref mfr, .ref mwt, .int x_wt, .int x_op, .int x_jo, .ref mfg, .ref mpl, .long x_dr, .ref mtm, .ref mfa, .ref mqu, .ref mmo, .ref mwy, .ref mwn, .ref mma, .ref mwi, .ref mnu, .ref mmv])), (mwo, .inl (c_wo, 1875, .inl w_wo)), (mlu, .inl (c_lu, 20000, .inl w_lu)), (mfg, .inl (c_fg, 12, .inl f_464))] H := hP
      have hD : va_D A [(o0, .inr (8, [.int x_th, .ref mwo, .ref mim, .ref mhi, .ref mlu, .ref mtp, .int x_td, .ref mfv, .int x_sz, .int x_at, .int x_fr, .int x_to, .int x_va, .int x_fk, .int x_fp, .ref mfr, .ref mwt, .int x_wt, .int x_op, .int x_jo, .ref mfg, .ref mpl, .long x_dr, .ref mtm, .ref mfa, .ref mqu, .ref mmo, .ref mwy, .ref mwn, .ref mma, .ref mwi, .ref mnu, .ref mmv])), (mwo, .inl (c_wo, 1875, .inl w_wo)), (mlu, .inl (c_lu, 20000, .inl w_lu)), (mfg, .inl (c_fg, 12, .inl f_464))] := hD
      have hl : lv_has ls 5 [(4, .int y_462), (3, .int y_463), (0, .ref o0), (1, .int a1), (2, .int a2)] := hl
      refine lv_iload hx hb dX10_have_20 (lv_at hl 0 rfl) ?_
      refine lv_aload_n hx hb dX10_have_22 rfl (lv_at hl 2 rfl) ?_
      refine va_get (D := (dC, dI)) (ci := 8) (v := .ref mwo) (C := RX10) (T := TX10) (N := 33) hx hb hts iX10_have_X10 hown hK hP 0 rfl rfl 1 (by decide) (hts (.fieldLink RX10 9 "LuckyTicketModel" "world" "[I") (List.mem_of_getElem? (i := 6) rfl)) (fun _ h9 => h9) rfl dX10_have_23 ?_
      refine lv_iconst (v := 2) hx hb dX10_have_26 (by decide) ?_
      refine va_iald hx hb hK hP 1 0 rfl rfl (vp_in_b (by decide : (2 : Int) ≤ (2 : Int32).toInt ∧ (2 : Int32).toInt ≤ 2) (by decide) (by decide)) dX10_have_27 ?_
      refine lv_topi (fun z_840 e_z_840 => ?_)
      obtain rfl : z_840 = tk := e_z_840.trans hw2
      refine lv_icmp_ge (tgt := 76) hx hb dX10_have_28 (by decide) (fun c_841 => ?_) (fun c_841 => ?_)
      ·
        have n_c_841 : (tk.toInt : Int) ≤ y_462.toInt := c_ge rfl rfl c_841
        refine lv_iload_n hx hb dX10_have_76 rfl (lv_at hl 1 rfl) ?_
        have hP9 := hP.sub (ws' := [(o0, .inr (8, [.int x_th, .ref mwo, .ref mim, .ref mhi, .ref mlu, .ref mtp, .int x_td, .ref mfv, .int x_sz, .int x_at, .int x_fr, .int x_to, .int x_va, .int x_fk, .int x_fp, .ref mfr, .ref mwt, .int x_wt, .int x_op, .int x_jo, .ref mfg, .ref mpl, .long x_dr, .ref mtm, .ref mfa, .ref mqu, .ref mmo, .ref mwy, .ref mwn, .ref mma, .ref mwi, .ref mnu, .ref mmv])), (mwo, .inl (c_wo, 1875, .inl w_wo)), (mlu, .inl (c_lu, 20000, .inl w_lu)), (mfg, .inl (c_fg, 12, .inl f_464))]) [0, 1, 2, 3] rfl
        have hD9 := hD.sub (ws' := [(o0, .inr (8, [.int x_th, .ref mwo, .ref mim, .ref mhi, .ref mlu, .ref mtp, .int x_td, .ref mfv, .int x_sz, .int x_at, .int x_fr, .int x_to, .int x_va, .int x_fk, .int x_fp, .ref mfr, .ref mwt, .int x_wt, .int x_op, .int x_jo, .ref mfg, .ref mpl, .long x_dr, .ref mtm, .ref mfa, .ref mqu, .ref mmo, .ref mwy, .ref mwn, .ref mma, .ref mwi, .ref mnu, .ref mmv])), (mwo, .inl (c_wo, 1875, .inl w_wo)), (mlu, .inl (c_lu, 20000, .inl w_lu)), (mfg, .inl (c_fg, 12, .inl f_464))]) [0, 1, 2, 3] (by decide) rfl
        have hK9 := hK.sub (tys' := [(c_wo, .int), (c_lu, .int), (c_fg, .int)]) [0, 1, 2] rfl
        exact W.iret (v := y_463) hx hb hr (fun t ht hW => ⟨⟨y_463, (), rfl, trivial, f_464, ha_f_464, by rw [ht]; exact hP9, va_K.moved hW.alike hK9, hD9⟩, hS.F ht⟩) hS.2.2 dX10_have_77
      ·
        have n_c_841 : (y_462.toInt : Int) < tk.toInt := c_nge rfl rfl c_841
        have b_y_462 : (0 : Int) ≤ y_462.toInt ∧ y_462.toInt ≤ 19999 := r_lt1 b_y_462 b_tk n_c_841 (by decide)
        have b_tk : (1 : Int) ≤ tk.toInt ∧ tk.toInt ≤ 20000 := r_lt2 b_y_462 b_tk n_c_841 (by decide)
        refine lv_aload_n hx hb dX10_have_31 rfl (lv_at hl 2 rfl) ?_
        refine lv_iload_n hx hb dX10_have_32 rfl (lv_at hl 3 rfl) ?_
        refine lv_iload hx hb dX10_have_33 (lv_at hl 0 rfl) ?_
        refine vp_callSi (W.runV (As := [.int a1, .int y_462]) (rest := []) ⟨hx, hb, hml, hown, hts⟩ (kX10_isLucky l dC dI o0 x_th mwo mim mhi mlu mtp x_td mfv x_sz x_at x_fr x_to x_va x_fk x_fp mfr mwt x_wt x_op x_jo mfg mpl x_dr mtm mfa mqu mmo mwy mwn mma mwi mnu mmv c_wo c_lu w_wo w_lu ln bs tk lw li a1 y_462 b_ln b_bs (rg_w b_tk (by decide) (by decide)) b_lw b_y_462 (hw0) (hw1) (hw2) (hw3) (hw4) (hwz)) (cwV 2 hts gX10_have__X10_isLucky_V316 rfl rfl rfl (by decide +kernel) ⟨lel 1 2 rfl, lel 22 46 rfl⟩) ⟨pw_fb, va_recv hK hP (ci := 8) (q0 := 0) rfl rfl, (pw_use hP hK hN [0, 1, 2] rfl [0, 1] rfl)⟩ rfl rfl hl.1 rfl (lv_room (Nat.le_of_ble_eq_true rfl)) dX10_have_35 ⟨lel 0 0 rfl, lel 0 0 rfl⟩) (fun r_842 h_r_842 => ?_)
        have b_r_842 := h_r_842
        have b_r_842 : (0 : Int) ≤ r_842.toInt ∧ r_842.toInt ≤ 1 := b_r_842
        refine cutW (σ := Int32 × (Nat → Int32)) (pc2 := 70) (st2 := fun v => []) (cells2 := 0) (slots2 := 0) (fun v H locs ls => (rg v.2 12 0 15) ∧ va_P (dC, dI) vwCl [(o0, .inr (8, [.int x_th, .ref mwo, .ref mim, .ref mhi, .ref mlu, .ref mtp, .int x_td, .ref mfv, .int x_sz, .int x_at, .int x_fr, .int x_to, .int x_va, .int x_fk, .int x_fp, .ref mfr, .ref mwt, .int x_wt, .int x_op, .int x_jo, .ref mfg, .ref mpl, .long x_dr, .ref mtm, .ref mfa, .ref mqu, .ref mmo, .ref mwy, .ref mwn, .ref mma, .ref mwi, .ref mnu, .ref mmv])), (mwo, .inl (c_wo, 1875, .inl w_wo)), (mlu, .inl (c_lu, 20000, .inl w_lu)), (mfg, .inl (c_fg, 12, .inl v.2))] H ∧ va_D A [(o0, .inr (8, [.int x_th, .ref mwo, .ref mim, .ref mhi, .ref mlu, .ref mtp, .int x_td, .ref mfv, .int x_sz, .int x_at, .int x_fr, .int x_to, .int x_va, .int x_fk, .int x_fp, .ref mfr, .ref mwt, .int x_wt, .int x_op, .int x_jo, .ref mfg, .ref mpl, .long x_dr, .ref mtm, .ref mfa, .ref mqu, .ref mmo, .ref mwy, .ref mwn, .ref mma, .ref mwi, .ref mnu, .ref mmv])), (mwo, .inl (c_wo, 1875, .inl w_wo)), (mlu, .inl (c_lu, 20000, .inl w_lu)), (mfg, .inl (c_fg, 12, .inl v.2))] ∧ va_S A s.heap H locs ∧ lv_has ls 5 [(3, .int v.1), (4, .int y_462), (0, .ref o0), (1, .int a1), (2, .int a2)]) (fun v H locs ls hI => ?_) (fun hj_70_854 => ?_)
        ·
          obtain ⟨y_853, f_854⟩ := v
          obtain ⟨ha_f_854, hP, hD, hS, hl⟩ := hI
          have ha_f_854 : rg f_854 12 0 15 := ha_f_854
          have hP : va_P (dC, dI) vwCl [(o0, .inr (8, [.int x_th, .ref mwo, .ref mim, .ref mhi, .ref mlu, .ref mtp, .int x_td, .ref mfv, .int x_sz, .int x_at, .int x_fr, .int x_to, .int x_va, .int x_fk, .int x_fp, .ref mfr, .ref mwt, .int x_wt, .int x_op, .int x_jo, .ref mfg, .ref mpl, .long x_dr, .ref mtm, .ref mfa, .ref mqu, .ref mmo, .ref mwy, .ref mwn, .ref mma, .ref mwi, .ref mnu, .ref mmv])), (mwo, .inl (c_wo, 1875, .inl w_wo)), (mlu, .inl (c_lu, 20000, .inl w_lu)), (mfg, .inl (c_fg, 12, .inl f_854))] H := hP
          have hD : va_D A [(o0, .inr (8, [.int x_th, .ref mwo, .ref mim, .ref mhi, .ref mlu, .ref mtp, .int x_td, .ref mfv, .int x_sz, .int x_at, .int x_fr, .int x_to, .int x_va, .int x_fk, .int x_fp, .ref mfr, .ref mwt, .int x_wt, .int x_op, .int x_jo, .ref mfg, .ref mpl, .long x_dr, .ref mtm, .ref mfa, .ref mqu, .ref mmo, .ref mwy, .ref mwn, .ref mma, .ref mwi, .ref mnu, .ref mmv])), (mwo, .inl (c_wo, 1875, .inl w_wo)), (mlu, .inl (c_lu, 20000, .inl w_lu)), (mfg, .inl (c_fg, 12, .inl f_854))] := hD
          have hl : lv_has ls 5 [(3, .int y_853), (4, .int y_462), (0, .ref o0), (1, .int a1), (2, .int a2)] := hl
          obtain ⟨z_855, e_z_855⟩ : ∃ y : Int32, y = y_462 + 1 := ⟨_, rfl⟩
          refine lv_iinc (v := z_855) (lv' := [(4, .int z_855), (3, .int y_853), (0, .ref o0), (1, .int a1), (2, .int a2)]) hx hb dX10_have_70 hl (k := 1) rfl (by rw [e_z_855]; rfl) (by decide) rfl (fun ls hl => ?_)
          obtain ⟨q_z_855, b_z_855⟩ := ti_add (lo := 1) (hi := 20000) e_z_855 rfl (by decide : (1 : Int32).toInt = 1) b_y_462 (by decide : (1 : Int) ≤ (1 : Int32).toInt ∧ (1 : Int32).toInt ≤ 1) (by decide)
          refine lv_goto (tgt := 20) hx hb dX10_have_73 (by decide) ?_
          exact ih_20_839 (z_855, y_853, f_854) _ _ _ ⟨(show (0 : Int) ≤ z_855.toInt ∧ z_855.toInt ≤ 20000 from (rg_w b_z_855 (by decide) (by decide))), (show rg f_854 12 0 15 from ha_f_854), hP, hD, hS, lv_sub hl [0, 1, 2, 3, 4] rfl⟩ (show (20000 - z_855.toInt).toNat < (20000 - y_462.toInt).toNat by omega)
        ·
          refine lv_if_ne (tgt := 44) hx hb dX10_have_38 (by decide) (fun c_843 => ?_) (fun c_843 => ?_)
          ·
            have n_c_843 : (r_842.toInt : Int) ≠ 0 := c_ne rfl (by decide) c_843
            have b_r_842 : (1 : Int) ≤ r_842.toInt ∧ r_842.toInt ≤ 1 := r_ne1 b_r_842 (by decide : (0 : Int) ≤ (0 : Int32).toInt ∧ (0 : Int32).toInt ≤ 0) n_c_843 (by decide)
            refine lv_aload_n hx hb dX10_have_44 rfl (lv_at hl 2 rfl) ?_
            refine lv_iload hx hb dX10_have_45 (lv_at hl 0 rfl) ?_
            have hFc := va_free (wc := [(o0, .inr (8, [.int x_th, .ref mwo, .ref mim, .ref mhi, .ref mlu, .ref mtp, .int x_td, .ref mfv, .int x_sz, .int x_at, .int x_fr, .int x_to, .int x_va, .int x_fk, .int x_fp, .ref mfr, .ref mwt, .int x_wt, .int x_op, .int x_jo, .ref mfg, .ref mpl, .long x_dr, .ref mtm, .ref mfa, .ref mqu, .ref mmo, .ref mwy, .ref mwn, .ref mma, .ref mwi, .ref mnu, .ref mmv])), (mwo, .inl (c_wo, 1875, .inl w_wo)), (mfg, .inl (c_fg, 12, .inl f_464))]) hD hS hA [0, 1, 3] rfl
            refine va_callv (va_runV (As := [.int y_462]) (rest := []) ⟨hx, hb, hml, hown, hts⟩ (kX10_fillFigures l dC dI o0 x_th mwo mim mhi mlu mtp x_td mfv x_sz x_at x_fr x_to x_va x_fk x_fp mfr mwt x_wt x_op x_jo mfg mpl x_dr mtm mfa mqu mmo mwy mwn mma mwi mnu mmv c_wo c_fg w_wo f_464 ln bs tk lw li y_462 (H.size) b_ln b_bs (rg_w b_tk (by decide) (by decide)) b_lw b_y_462 ha_f_464 (hw0) (hw1) (hw2) (hw3) (hw4) (hwz)) (cwV 1 hts gX10_have__X10_fillFigures_V302 rfl rfl rfl (by decide +kernel) ⟨lel 1 2 rfl, lel 23 46 rfl⟩) ⟨hw_fb, va_recv hK hP (ci := 8) (q0 := 0) rfl rfl, (hw_use hP hD hK hN [0, 1, 3] rfl (by decide) rfl [0, 2] rfl)⟩ rfl rfl hl.1 rfl (lv_room (Nat.le_of_ble_eq_true rfl)) dX10_have_47 ⟨lel 0 0 rfl, lel 0 0 rfl⟩) hS (fun q _ h => hFc q h) hFc (fun u_857 t H1 locs ht hvm hw_r_856 hB hz1 hk1 hS => ?_)
            obtain ⟨o0_858, ha_859, hP1, hK1, hD1⟩ := hB
            rw [ht] at hP1
            have hK1 := va_K.moved hvm.symm hK1
            obtain ⟨hP, hD⟩ := va_join (wr := [(mlu, .inl (c_lu, 20000, .inl w_lu))]) (w1 := [(o0, .inr (8, [.int x_th, .ref mwo, .ref mim, .ref mhi, .ref mlu, .ref mtp, .int x_td, .ref mfv, .int x_sz, .int x_at, .int x_fr, .int x_to, .int x_va, .int x_fk, .int x_fp, .ref mfr, .ref mwt, .int x_wt, .int x_op, .int x_jo, .ref mfg, .ref mpl, .long x_dr, .ref mtm, .ref mfa, .ref mqu, .ref mmo, .ref mwy, .ref mwn, .ref mma, .ref mwi, .ref mnu, .ref mmv])), (mwo, .inl (c_wo, 1875, .inl w_wo)), (mfg, .inl (c_fg, 12, .inl o0_858))]) hP hD [0, 1, 3] [2] rfl rfl (by decide) (by decide) hk1 hFc hP1 hD1
            have hK := (hK.sub (tys' := [(c_lu, .int)]) [1] rfl).app hK1
            generalize H1 = H at hP hS ⊢
            have hP := hP.sub (ws' := [(o0, .inr (8, [.int x_th, .ref mwo, .ref mim, .ref mhi, .ref mlu, .ref mtp, .int x_td, .ref mfv, .int x_sz, .int x_at, .int x_fr, .int x_to, .int x_va, .int x_fk, .int x_fp, .ref mfr, .ref mwt, .int x_wt, .int x_op, .int x_jo, .ref mfg, .ref mpl, .long x_dr, .ref mtm, .ref mfa, .ref mqu, .ref mmo, .ref mwy, .ref mwn, .ref mma, .ref mwi, .ref mnu, .ref mmv])), (mwo, .inl (c_wo, 1875, .inl w_wo)), (mlu, .inl (c_lu, 20000, .inl w_lu)), (mfg, .inl (c_fg, 12, .inl o0_858))]) [1, 2, 0, 3] rfl
            have hD := hD.sub (ws' := [(o0, .inr (8, [.int x_th, .ref mwo, .ref mim, .ref mhi, .ref mlu, .ref mtp, .int x_td, .ref mfv, .int x_sz, .int x_at, .int x_fr, .int x_to, .int x_va, .int x_fk, .int x_fp, .ref mfr, .ref mwt, .int x_wt, .int x_op, .int x_jo, .ref mfg, .ref mpl, .long x_dr, .ref mtm, .ref mfa, .ref mqu, .ref mmo, .ref mwy, .ref mwn, .ref mma, .ref mwi, .ref mnu, .ref mmv])), (mwo, .inl (c_wo, 1875, .inl w_wo)), (mlu, .inl (c_lu, 20000, .inl w_lu)), (mfg, .inl (c_fg, 12, .inl o0_858))]) [1, 2, 0, 3] (by decide) rfl
            have hK := hK.sub (tys' := [(c_wo, .int), (c_lu, .int), (c_fg, .int)]) [1, 0, 2] rfl
            have hP : va_P (dC, dI) vwCl [(o0, .inr (8, [.int x_th, .ref mwo, .ref mim, .ref mhi, .ref mlu, .ref mtp, .int x_td, .ref mfv, .int x_sz, .int x_at, .int x_fr, .int x_to, .int x_va, .int x_fk, .int x_fp, .ref mfr, .ref mwt, .int x_wt, .int x_op, .int x_jo, .ref mfg, .ref mpl, .long x_dr, .ref mtm, .ref mfa, .ref mqu, .ref mmo, .ref mwy, .ref mwn, .ref mma, .ref mwi, .ref mnu, .ref mmv])), (mwo, .inl (c_wo, 1875, .inl w_wo)), (mlu, .inl (c_lu, 20000, .inl w_lu)), (mfg, .inl (c_fg, 12, .inl o0_858))] H := hP
            have hD : va_D A [(o0, .inr (8, [.int x_th, .ref mwo, .ref mim, .ref mhi, .ref mlu, .ref mtp, .int x_td, .ref mfv, .int x_sz, .int x_at, .int x_fr, .int x_to, .int x_va, .int x_fk, .int x_fp, .ref mfr, .ref mwt, .int x_wt, .int x_op, .int x_jo, .ref mfg, .ref mpl, .long x_dr, .ref mtm, .ref mfa, .ref mqu, .ref mmo, .ref mwy, .ref mwn, .ref mma, .ref mwi, .ref mnu, .ref mmv])), (mwo, .inl (c_wo, 1875, .inl w_wo)), (mlu, .inl (c_lu, 20000, .inl w_lu)), (mfg, .inl (c_fg, 12, .inl o0_858))] := hD
            have hK : va_K (dC, dI) vwCl [(c_wo, .int), (c_lu, .int), (c_fg, .int)] s := hK
            refine lv_iload_n hx hb dX10_have_50 rfl (lv_at hl 1 rfl) ?_
            refine lv_aload_n hx hb dX10_have_51 rfl (lv_at hl 2 rfl) ?_
            refine lv_aload_n hx hb dX10_have_52 rfl (lv_at hl 2 rfl) ?_
            refine vp_callSi (W.runV (As := []) (rest := [.ref o0, .int y_463]) ⟨hx, hb, hml, hown, hts⟩ (kX10_all l dC dI o0 x_th mwo mim mhi mlu mtp x_td mfv x_sz x_at x_fr x_to x_va x_fk x_fp mfr mwt x_wt x_op x_jo mfg mpl x_dr mtm mfa mqu mmo mwy mwn mma mwi mnu mmv c_wo w_wo ln bs tk lw li b_ln b_bs (rg_w b_tk (by decide) (by decide)) b_lw (hw0) (hw1) (hw2) (hw3) (hw4) (hwz)) (cwV 0 hts gX10_have__X10_all_V277 rfl rfl rfl (by decide +kernel) ⟨lel 1 2 rfl, lel 20 46 rfl⟩) ⟨pw_fb, va_recv hK hP (ci := 8) (q0 := 0) rfl rfl, (pw_use hP hK hN [0, 1] rfl [0] rfl)⟩ rfl rfl hl.1 rfl (lv_room (Nat.le_of_ble_eq_true rfl)) dX10_have_53 ⟨lel 0 0 rfl, lel 0 0 rfl⟩) (fun r_860 h_r_860 => ?_)
            refine vp_callSi (W.runV (As := [.int r_860]) (rest := [.int y_463]) ⟨hx, hb, hml, hown, hts⟩ (kX10_sumOf l dC dI o0 x_th mwo mim mhi mlu mtp x_td mfv x_sz x_at x_fr x_to x_va x_fk x_fp mfr mwt x_wt x_op x_jo mfg mpl x_dr mtm mfa mqu mmo mwy mwn mma mwi mnu mmv c_wo c_fg w_wo o0_858 ln bs tk lw li r_860 b_ln b_bs (rg_w b_tk (by decide) (by decide)) b_lw ha_859 (hw0) (hw1) (hw2) (hw3) (hw4) (hwz)) (cwV 1 hts gX10_have__X10_sumOf_V280 rfl rfl rfl (by decide +kernel) ⟨lel 1 2 rfl, lel 23 46 rfl⟩) ⟨pw_fb, va_recv hK hP (ci := 8) (q0 := 0) rfl rfl, (pw_use hP hK hN [0, 1, 3] rfl [0, 2] rfl)⟩ rfl rfl hl.1 rfl (lv_room (Nat.le_of_ble_eq_true rfl)) dX10_have_56 ⟨lel 0 0 rfl, lel 0 0 rfl⟩) (fun r_861 h_r_861 => ?_)
            have b_r_861 := h_r_861
            have b_r_861 : (0 : Int) ≤ r_861.toInt ∧ r_861.toInt ≤ 180 := b_r_861
            refine lv_iload_n hx hb dX10_have_59 rfl (lv_at hl 4 rfl) ?_
            refine cutW (σ := Int32) (pc2 := 68) (st2 := fun v => [.int v, .int y_463]) (cells2 := 0) (slots2 := 0) (fun v H locs ls => ((0 : Int) ≤ v.toInt ∧ v.toInt ≤ 1) ∧ va_P (dC, dI) vwCl [(o0, .inr (8, [.int x_th, .ref mwo, .ref mim, .ref mhi, .ref mlu, .ref mtp, .int x_td, .ref mfv, .int x_sz, .int x_at, .int x_fr, .int x_to, .int x_va, .int x_fk, .int x_fp, .ref mfr, .ref mwt, .int x_wt, .int x_op, .int x_jo, .ref mfg, .ref mpl, .long x_dr, .ref mtm, .ref mfa, .ref mqu, .ref mmo, .ref mwy, .ref mwn, .ref mma, .ref mwi, .ref mnu, .ref mmv])), (mwo, .inl (c_wo, 1875, .inl w_wo)), (mlu, .inl (c_lu, 20000, .inl w_lu)), (mfg, .inl (c_fg, 12, .inl o0_858))] H ∧ va_D A [(o0, .inr (8, [.int x_th, .ref mwo, .ref mim, .ref mhi, .ref mlu, .ref mtp, .int x_td, .ref mfv, .int x_sz, .int x_at, .int x_fr, .int x_to, .int x_va, .int x_fk, .int x_fp, .ref mfr, .ref mwt, .int x_wt, .int x_op, .int x_jo, .ref mfg, .ref mpl, .long x_dr, .ref mtm, .ref mfa, .ref mqu, .ref mmo, .ref mwy, .ref mwn, .ref mma, .ref mwi, .ref mnu, .ref mmv])), (mwo, .inl (c_wo, 1875, .inl w_wo)), (mlu, .inl (c_lu, 20000, .inl w_lu)), (mfg, .inl (c_fg, 12, .inl o0_858))] ∧ va_S A s.heap H locs ∧ lv_has ls 5 [(4, .int y_462), (3, .int y_463), (0, .ref o0), (1, .int a1), (2, .int a2)]) (fun v H locs ls hI => ?_) (fun hj_68_863 => ?_)
            ·
              obtain ⟨y_863, rfl⟩ : ∃ z, z = v := ⟨_, rfl⟩
              obtain ⟨b_y_863, hP, hD, hS, hl⟩ := hI
              have b_y_863 : (0 : Int) ≤ y_863.toInt ∧ y_863.toInt ≤ 1 := b_y_863
              have hP : va_P (dC, dI) vwCl [(o0, .inr (8, [.int x_th, .ref mwo, .ref mim, .ref mhi, .ref mlu, .ref mtp, .int x_td, .ref mfv, .int x_sz, .int x_at, .int x_fr, .int x_to, .int x_va, .int x_fk, .int x_fp, .ref mfr, .ref mwt, .int x_wt, .int x_op, .int x_jo, .ref mfg, .ref mpl, .long x_dr, .ref mtm, .ref mfa, .ref mqu, .ref mmo, .ref mwy, .ref mwn, .ref mma, .ref mwi, .ref mnu, .ref mmv])), (mwo, .inl (c_wo, 1875, .inl w_wo)), (mlu, .inl (c_lu, 20000, .inl w_lu)), (mfg, .inl (c_fg, 12, .inl o0_858))] H := hP
              have hD : va_D A [(o0, .inr (8, [.int x_th, .ref mwo, .ref mim, .ref mhi, .ref mlu, .ref mtp, .int x_td, .ref mfv, .int x_sz, .int x_at, .int x_fr, .int x_to, .int x_va, .int x_fk, .int x_fp, .ref mfr, .ref mwt, .int x_wt, .int x_op, .int x_jo, .ref mfg, .ref mpl, .long x_dr, .ref mtm, .ref mfa, .ref mqu, .ref mmo, .ref mwy, .ref mwn, .ref mma, .ref mwi, .ref mnu, .ref mmv])), (mwo, .inl (c_wo, 1875, .inl w_wo)), (mlu, .inl (c_lu, 20000, .inl w_lu)), (mfg, .inl (c_fg, 12, .inl o0_858))] := hD
              have hl : lv_has ls 5 [(4, .int y_462), (3, .int y_463), (0, .ref o0), (1, .int a1), (2, .int a2)] := hl
              refine lv_iadd hx hb dX10_have_68 ?_
              refine lv_topi (fun z_864 e_z_864 => ?_)
              refine lv_istore_n (lv' := [(3, .int z_864), (4, .int y_462), (0, .ref o0), (1, .int a1), (2, .int a2)]) hx hb dX10_have_69 rfl hl (by decide) rfl (fun ls hl => ?_)
              exact hj_70_854 (z_864, o0_858) _ _ _ ⟨(show rg o0_858 12 0 15 from ha_859), hP, hD, hS, lv_sub hl [0, 1, 2, 3, 4] rfl⟩
            ·
              refine lv_icmp_ne (tgt := 67) hx hb dX10_have_60 (by decide) (fun c_862 => ?_) (fun c_862 => ?_)
              ·
                have n_c_862 : (r_861.toInt : Int) ≠ a2.toInt := c_ne rfl rfl c_862
                refine lv_iconst (v := 0) hx hb dX10_have_67 (by decide) ?_
                exact hj_68_863 (0 : Int32) _ _ _ ⟨(show (0 : Int) ≤ (0 : Int32).toInt ∧ (0 : Int32).toInt ≤ 1 from (rg_w (by decide : (0 : Int) ≤ (0 : Int32).toInt ∧ (0 : Int32).toInt ≤ 0) (by decide) (by decide))), hP, hD, hS, lv_sub hl [0, 1, 2, 3, 4] rfl⟩
              ·
                have n_c_862 : (r_861.toInt : Int) = a2.toInt := c_eq rfl rfl c_862
                have b_a2 : (0 : Int) ≤ a2.toInt ∧ a2.toInt ≤ 180 := r_eq2 b_r_861 b_a2 n_c_862 (by decide)
                refine lv_iconst (v := 1) hx hb dX10_have_63 (by decide) ?_
                refine lv_goto (tgt := 68) hx hb dX10_have_64 (by decide) ?_
                exact hj_68_863 (1 : Int32) _ _ _ ⟨(show (0 : Int) ≤ (1 : Int32).toInt ∧ (1 : Int32).toInt ≤ 1 from (rg_w (by decide : (1 : Int) ≤ (1 : Int32).toInt ∧ (1 : Int32).toInt ≤ 1) (by decide) (by decide))), hP, hD, hS, lv_sub hl [0, 1, 2, 3, 4] rfl⟩
          ·
            have n_c_843 : (r_842.toInt : Int) = 0 := c_eq rfl (by decide) c_843
            have b_r_842 : (0 : Int) ≤ r_842.toInt ∧ r_842.toInt ≤ 0 := r_eq1 b_r_842 (by decide : (0 : Int) ≤ (0 : Int32).toInt ∧ (0 : Int32).toInt ≤ 0) n_c_843 (by decide)
            refine lv_goto (tgt := 70) hx hb dX10_have_41 (by decide) ?_
            exact hj_70_854 (y_463, f_464) _ _ _ ⟨(show rg f_464 12 0 15 from ha_f_464), hP, hD, hS, lv_sub hl [1, 0, 2, 3, 4] rfl⟩
    ·
      have n_c_436 : (a2.toInt : Int) < 0 := c_nge rfl (by decide) c_436
      have b_a2 : (-2147483648 : Int) ≤ a2.toInt ∧ a2.toInt ≤ -1 := r_lt1 (ti_rng a2) (by decide : (0 : Int) ≤ (0 : Int32).toInt ∧ (0 : Int32).toInt ≤ 0) n_c_436 (by decide)
      refine lv_bipush (v := (-2)) hx hb dX10_have_12 (by decide) ?_
      have hP9 := hP.sub (ws' := [(o0, .inr (8, [.int x_th, .ref mwo, .ref mim, .ref mhi, .ref mlu, .ref mtp, .int x_td, .ref mfv, .int x_sz, .int x_at, .int x_fr, .int x_to, .int x_va, .int x_fk, .int x_fp, .ref mfr, .ref mwt, .int x_wt, .int x_op, .int x_jo, .ref mfg, .ref mpl, .long x_dr, .ref mtm, .ref mfa, .ref mqu, .ref mmo, .ref mwy, .ref mwn, .ref mma, .ref mwi, .ref mnu, .ref mmv])), (mwo, .inl (c_wo, 1875, .inl w_wo)), (mlu, .inl (c_lu, 20000, .inl w_lu)), (mfg, .inl (c_fg, 12, .inl w_fg))]) [0, 1, 2, 3] rfl
      have hD9 := hD.sub (ws' := [(o0, .inr (8, [.int x_th, .ref mwo, .ref mim, .ref mhi, .ref mlu, .ref mtp, .int x_td, .ref mfv, .int x_sz, .int x_at, .int x_fr, .int x_to, .int x_va, .int x_fk, .int x_fp, .ref mfr, .ref mwt, .int x_wt, .int x_op, .int x_jo, .ref mfg, .ref mpl, .long x_dr, .ref mtm, .ref mfa, .ref mqu, .ref mmo, .ref mwy, .ref mwn, .ref mma, .ref mwi, .ref mnu, .ref mmv])), (mwo, .inl (c_wo, 1875, .inl w_wo)), (mlu, .inl (c_lu, 20000, .inl w_lu)), (mfg, .inl (c_fg, 12, .inl w_fg))]) [0, 1, 2, 3] (by decide) rfl
      have hK9 := hK.sub (tys' := [(c_wo, .int), (c_lu, .int), (c_fg, .int)]) [0, 1, 2] rfl
      exact W.iret (v := (-2)) hx hb hr (fun t ht hW => ⟨⟨(-2), (), rfl, trivial, w_fg, ha_mfg, by rw [ht]; exact hP9, va_K.moved hW.alike hK9, hD9⟩, hS.F ht⟩) hS.2.2 dX10_have_14
theorem dX10_figuresAt_0 : decode cX10_figuresAt 0 = .ok (.iconst 0, 1) := by decide +kernel
theorem dX10_figuresAt_1 : decode cX10_figuresAt 1 = .ok (.istore 4, 2) := by decide +kernel
theorem dX10_figuresAt_3 : decode cX10_figuresAt 3 = .ok (.iconst 0, 1) := by decide +kernel
theorem dX10_figuresAt_4 : decode cX10_figuresAt 4 = .ok (.istore 5, 2) := by decide +kernel
theorem dX10_figuresAt_6 : decode cX10_figuresAt 6 = .ok (.iload 5, 2) := by decide +kernel
theorem dX10_figuresAt_8 : decode cX10_figuresAt 8 = .ok (.aload_n 0, 1) := by decide +kernel
theorem dX10_figuresAt_9 : decode cX10_figuresAt 9 = .ok (.getfield 9, 3) := by decide +kernel
theorem dX10_figuresAt_12 : decode cX10_figuresAt 12 = .ok (.iconst 2, 1) := by decide +kernel
theorem dX10_figuresAt_13 : decode cX10_figuresAt 13 = .ok (.iaload, 1) := by decide +kernel
theorem dX10_figuresAt_14 : decode cX10_figuresAt 14 = .ok (.if_icmp .ge 48, 3) := by decide +kernel
theorem dX10_figuresAt_17 : decode cX10_figuresAt 17 = .ok (.aload_n 0, 1) := by decide +kernel
theorem dX10_figuresAt_18 : decode cX10_figuresAt 18 = .ok (.iload_n 1, 1) := by decide +kernel
theorem dX10_figuresAt_19 : decode cX10_figuresAt 19 = .ok (.iload 5, 2) := by decide +kernel
theorem dX10_figuresAt_21 : decode cX10_figuresAt 21 = .ok (.invokevirtual 316, 3) := by decide +kernel
theorem dX10_figuresAt_24 : decode cX10_figuresAt 24 = .ok (.ifCond .ne 6, 3) := by decide +kernel
theorem dX10_figuresAt_27 : decode cX10_figuresAt 27 = .ok (.goto 29, 3) := by decide +kernel
theorem dX10_figuresAt_30 : decode cX10_figuresAt 30 = .ok (.aload_n 0, 1) := by decide +kernel
theorem dX10_figuresAt_31 : decode cX10_figuresAt 31 = .ok (.iload 5, 2) := by decide +kernel
theorem dX10_figuresAt_33 : decode cX10_figuresAt 33 = .ok (.invokevirtual 302, 3) := by decide +kernel
theorem dX10_figuresAt_36 : decode cX10_figuresAt 36 = .ok (.iload 4, 2) := by decide +kernel
theorem dX10_figuresAt_38 : decode cX10_figuresAt 38 = .ok (.aload_n 0, 1) := by decide +kernel
theorem dX10_figuresAt_39 : decode cX10_figuresAt 39 = .ok (.getfield 40, 3) := by decide +kernel
theorem dX10_figuresAt_42 : decode cX10_figuresAt 42 = .ok (.iload_n 2, 1) := by decide +kernel
theorem dX10_figuresAt_43 : decode cX10_figuresAt 43 = .ok (.iaload, 1) := by decide +kernel
theorem dX10_figuresAt_44 : decode cX10_figuresAt 44 = .ok (.iload_n 3, 1) := by decide +kernel
theorem dX10_figuresAt_45 : decode cX10_figuresAt 45 = .ok (.if_icmp .ne 7, 3) := by decide +kernel
theorem dX10_figuresAt_48 : decode cX10_figuresAt 48 = .ok (.iconst 1, 1) := by decide +kernel
theorem dX10_figuresAt_49 : decode cX10_figuresAt 49 = .ok (.goto 4, 3) := by decide +kernel
theorem dX10_figuresAt_52 : decode cX10_figuresAt 52 = .ok (.iconst 0, 1) := by decide +kernel
theorem dX10_figuresAt_53 : decode cX10_figuresAt 53 = .ok (.iadd, 1) := by decide +kernel
theorem dX10_figuresAt_54 : decode cX10_figuresAt 54 = .ok (.istore 4, 2) := by decide +kernel
theorem dX10_figuresAt_56 : decode cX10_figuresAt 56 = .ok (.iinc 5 1, 3) := by decide +kernel
theorem dX10_figuresAt_59 : decode cX10_figuresAt 59 = .ok (.goto (-53), 3) := by decide +kernel
theorem dX10_figuresAt_62 : decode cX10_figuresAt 62 = .ok (.iload 4, 2) := by decide +kernel
theorem dX10_figuresAt_64 : decode cX10_figuresAt 64 = .ok (.ireturn, 1) := by decide +kernel
def uX10_figuresAt : List Cond := .code yX10_figuresAt cX10_figuresAt 6 (some .int) :: ([.fieldLink RX10 9 "LuckyTicketModel" "world" "[I", .methodLink RX10 316 yX10_isLucky, .instanceMethod yX10_isLucky, .selects RX10 yX10_isLucky yX10_isLucky, .initialized RX10, .code yX10_isLucky cX10_isLucky 3 (some .boolean), .fieldLink RX10 20 "LuckyTicketModel" "luck" "[I", .methodLink RX10 302 yX10_fillFigures, .instanceMethod yX10_fillFigures, .selects RX10 yX10_fillFigures yX10_fillFigures, .code yX10_fillFigures cX10_fillFigures 4 none, .fieldLink RX10 40 "LuckyTicketModel" "figures" "[I"] ++ wsX100)
theorem iX10_figuresAt_X10 : ∀ w ∈ wsX100, w ∈ uX10_figuresAt := fun _ h => List.mem_cons_of_mem _ (List.mem_append_right _ h)
set_option maxRecDepth 20000 in
theorem gX10_figuresAt__X10_isLucky_V316 : GoodIn uX10_figuresAt (wsV RX10 316 RX10 yX10_isLucky uX10_isLucky) := goodIn_p _ [6] rfl (by decide +kernel)
set_option maxRecDepth 20000 in
theorem gX10_figuresAt__X10_fillFigures_V302 : GoodIn uX10_figuresAt (wsV RX10 302 RX10 yX10_fillFigures uX10_fillFigures) := goodIn_p _ [11] rfl (by decide +kernel)
set_option maxHeartbeats 4000000 in
set_option maxRecDepth 100000 in
theorem kX10_figuresAt (l : Launch) (dC : Nat → ClassId) (dI : Nat → Nat → Nat) (o0 : Nat) (x_th : Int32) (mwo : Nat) (mim : Nat) (mhi : Nat) (mlu : Nat) (mtp : Nat) (x_td : Int32) (mfv : Nat) (x_sz : Int32) (x_at : Int32) (x_fr : Int32) (x_to : Int32) (x_va : Int32) (x_fk : Int32) (x_fp : Int32) (mfr : Nat) (mwt : Nat) (x_wt : Int32) (x_op : Int32) (x_jo : Int32) (mfg : Nat) (mpl : Nat) (x_dr : Int64) (mtm : Nat) (mfa : Nat) (mqu : Nat) (mmo : Nat) (mwy : Nat) (mwn : Nat) (mma : Nat) (mwi : Nat) (mnu : Nat) (mmv : Nat) (c_wo : ClassId) (c_lu : ClassId) (c_fg : ClassId) (w_wo : Nat → Int32) (w_lu : Nat → Int32) (w_fg : Nat → Int32) (ln : Int32) (bs : Int32) (tk : Int32) (lw : Int32) (li : Int32) (a1 : Int32) (a2 : Int32) (a3 : Int32) (sz : Nat) (b_ln : (0 : Int) ≤ ln.toInt ∧ ln.toInt ≤ 12) (b_bs : (0 : Int) ≤ bs.toInt ∧ bs.toInt ≤ 16) (b_tk : (0 : Int) ≤ tk.toInt ∧ tk.toInt ≤ 20000) (b_lw : (0 : Int) ≤ lw.toInt ∧ lw.toInt ≤ 9) (b_a2 : (0 : Int) ≤ a2.toInt ∧ a2.toInt ≤ 11) (ha_mfg : rg w_fg 12 0 15) (hw0 : w_wo 0 = ln) (hw1 : w_wo 1 = bs) (hw2 : w_wo 2 = tk) (hw3 : w_wo 3 = lw) (hw4 : w_wo 4 = li) (hwz : (ln.toInt = 0 ∧ bs.toInt = 0 ∧ tk.toInt = 0 ∧ lw.toInt = 0) ∨ (1 ≤ ln.toInt ∧ 2 ≤ bs.toInt ∧ 1 ≤ tk.toInt)) : Met l yX10_figuresAt uX10_figuresAt ({ frames := 1, cells := 0, slots := 0, locals := 23 }) (va_Pc [.ref o0, .int a1, .int a2, .int a3] (hw (dC, dI) vwCl [(o0, .inr (8, [.int x_th, .ref mwo, .ref mim, .ref mhi, .ref mlu, .ref mtp, .int x_td, .ref mfv, .int x_sz, .int x_at, .int x_fr, .int x_to, .int x_va, .int x_fk, .int x_fp, .ref mfr, .ref mwt, .int x_wt, .int x_op, .int x_jo, .ref mfg, .ref mpl, .long x_dr, .ref mtm, .ref mfa, .ref mqu, .ref mmo, .ref mwy, .ref mwn, .ref mma, .ref mwi, .ref mnu, .ref mmv])), (mwo, .inl (c_wo, 1875, .inl w_wo)), (mlu, .inl (c_lu, 20000, .inl w_lu)), (mfg, .inl (c_fg, 12, .inl w_fg))] [(c_wo, .int), (c_lu, .int), (c_fg, .int)] sz)) (va_Qi (fun (r : Int32) (_ : Unit) => True) (fun (_ : Unit) t => ∃ (o0_ : Nat → Int32), (rg o0_ 12 0 15) ∧ va_P (dC, dI) vwCl [(o0, .inr (8, [.int x_th, .ref mwo, .ref mim, .ref mhi, .ref mlu, .ref mtp, .int x_td, .ref mfv, .int x_sz, .int x_at, .int x_fr, .int x_to, .int x_va, .int x_fk, .int x_fp, .ref mfr, .ref mwt, .int x_wt, .int x_op, .int x_jo, .ref mfg, .ref mpl, .long x_dr, .ref mtm, .ref mfa, .ref mqu, .ref mmo, .ref mwy, .ref mwn, .ref mma, .ref mwi, .ref mnu, .ref mmv])), (mwo, .inl (c_wo, 1875, .inl w_wo)), (mlu, .inl (c_lu, 20000, .inl w_lu)), (mfg, .inl (c_fg, 12, .inl o0_))] t.heap ∧ va_K (dC, dI) vwCl [(c_wo, .int), (c_lu, .int), (c_fg, .int)] t ∧ va_D (va_A [(o0, .inr (8, [.int x_th, .ref mwo, .ref mim, .ref mhi, .ref mlu, .ref mtp, .int x_td, .ref mfv, .int x_sz, .int x_at, .int x_fr, .int x_to, .int x_va, .int x_fk, .int x_fp, .ref mfr, .ref mwt, .int x_wt, .int x_op, .int x_jo, .ref mfg, .ref mpl, .long x_dr, .ref mtm, .ref mfa, .ref mqu, .ref mmo, .ref mwy, .ref mwn, .ref mma, .ref mwi, .ref mnu, .ref mmv])), (mwo, .inl (c_wo, 1875, .inl w_wo)), (mlu, .inl (c_lu, 20000, .inl w_lu)), (mfg, .inl (c_fg, 12, .inl w_fg))] sz) [(o0, .inr (8, [.int x_th, .ref mwo, .ref mim, .ref mhi, .ref mlu, .ref mtp, .int x_td, .ref mfv, .int x_sz, .int x_at, .int x_fr, .int x_to, .int x_va, .int x_fk, .int x_fp, .ref mfr, .ref mwt, .int x_wt, .int x_op, .int x_jo, .ref mfg, .ref mpl, .long x_dr, .ref mtm, .ref mfa, .ref mqu, .ref mmo, .ref mwy, .ref mwn, .ref mma, .ref mwi, .ref mnu, .ref mmv])), (mwo, .inl (c_wo, 1875, .inl w_wo)), (mlu, .inl (c_lu, 20000, .inl w_lu)), (mfg, .inl (c_fg, 12, .inl o0_))]) (va_A [(o0, .inr (8, [.int x_th, .ref mwo, .ref mim, .ref mhi, .ref mlu, .ref mtp, .int x_td, .ref mfv, .int x_sz, .int x_at, .int x_fr, .int x_to, .int x_va, .int x_fk, .int x_fp, .ref mfr, .ref mwt, .int x_wt, .int x_op, .int x_jo, .ref mfg, .ref mpl, .long x_dr, .ref mtm, .ref mfa, .ref mqu, .ref mmo, .ref mwy, .ref mwn, .ref mma, .ref mwi, .ref mnu, .ref mmv])), (mwo, .inl (c_wo, 1875, .inl w_wo)), (mlu, .inl (c_lu, 20000, .inl w_lu)), (mfg, .inl (c_fg, 12, .inl w_fg))] sz)) 0 0 (va_A [(o0, .inr (8, [.int x_th, .ref mwo, .ref mim, .ref mhi, .ref mlu, .ref mtp, .int x_td, .ref mfv, .int x_sz, .int x_at, .int x_fr, .int x_to, .int x_va, .int x_fk, .int x_fp, .ref mfr, .ref mwt, .int x_wt, .int x_op, .int x_jo, .ref mfg, .ref mpl, .long x_dr, .ref mtm, .ref mfa, .ref mqu, .ref mmo, .ref mwy, .ref mwn, .ref mma, .ref mwi, .ref mnu, .ref mmv])), (mwo, .inl (c_wo, 1875, .inl w_wo)), (mlu, .inl (c_lu, 20000, .inl w_lu)), (mfg, .inl (c_fg, 12, .inl w_fg))] sz) := by
  refine Met.ofW (cc := cX10_figuresAt) (maxL := 6) (ret := (some .int)) (by decide) rfl ?_
  intro p e s m args below meth c s₁ B hml hv
  obtain ⟨rfl, hsz, hP, hK, hD0, hN⟩ := hv
  have hx := B.exec
  have hb := B.bytes
  have hr := B.returns
  have hts := atoms_spec (ws := uX10_figuresAt) B.pre
  have hown : s.vm.findClass RX10 = some m.cls := findClass_of_methodNamed B.named
  have hlocks := B.notSynchronized
  subst hsz
  have hD := hD0.self (sz := s.heap.size)
  generalize hAe : va_A [(o0, .inr (8, [.int x_th, .ref mwo, .ref mim, .ref mhi, .ref mlu, .ref mtp, .int x_td, .ref mfv, .int x_sz, .int x_at, .int x_fr, .int x_to, .int x_va, .int x_fk, .int x_fp, .ref mfr, .ref mwt, .int x_wt, .int x_op, .int x_jo, .ref mfg, .ref mpl, .long x_dr, .ref mtm, .ref mfa, .ref mqu, .ref mmo, .ref mwy, .ref mwn, .ref mma, .ref mwi, .ref mnu, .ref mmv])), (mwo, .inl (c_wo, 1875, .inl w_wo)), (mlu, .inl (c_lu, 20000, .inl w_lu)), (mfg, .inl (c_fg, 12, .inl w_fg))] s.heap.size = A at hD ⊢
  have hA : ∀ q : Nat, s.heap.size ≤ q → A q := fun q h => by rw [← hAe]; exact Or.inr h
  have hS : va_S A s.heap s.heap [] := va_S.rf
  have hP : va_P (dC, dI) vwCl [(o0, .inr (8, [.int x_th, .ref mwo, .ref mim, .ref mhi, .ref mlu, .ref mtp, .int x_td, .ref mfv, .int x_sz, .int x_at, .int x_fr, .int x_to, .int x_va, .int x_fk, .int x_fp, .ref mfr, .ref mwt, .int x_wt, .int x_op, .int x_jo, .ref mfg, .ref mpl, .long x_dr, .ref mtm, .ref mfa, .ref mqu, .ref mmo, .ref mwy, .ref mwn, .ref mma, .ref mwi, .ref mnu, .ref mmv])), (mwo, .inl (c_wo, 1875, .inl w_wo)), (mlu, .inl (c_lu, 20000, .inl w_lu)), (mfg, .inl (c_fg, 12, .inl w_fg))] s.heap := hP
  have hl := lv_entry ([.ref o0, .int a1, .int a2, .int a3]) (n := 6) (Nat.le_of_ble_eq_true rfl)
  rw [lg_entry_eq]
  generalize (lg_sl ([.ref o0, .int a1, .int a2, .int a3]) ++ List.replicate (6 - (lg_sl ([.ref o0, .int a1, .int a2, .int a3])).length) Slot.unset).toArray = ls at hl ⊢
  have hl : lv_has ls 6 [(0, .ref o0), (1, .int a1), (2, .int a2), (3, .int a3)] := hl
  refine lv_iconst (v := 0) hx hb dX10_figuresAt_0 (by decide) ?_
  refine lv_istore (lv' := [(4, .int 0), (0, .ref o0), (1, .int a1), (2, .int a2), (3, .int a3)]) hx hb dX10_figuresAt_1 hl (by decide) rfl (fun ls hl => ?_)
  refine lv_iconst (v := 0) hx hb dX10_figuresAt_3 (by decide) ?_
  refine lv_istore (lv' := [(5, .int 0), (4, .int 0), (0, .ref o0), (1, .int a1), (2, .int a2), (3, .int a3)]) hx hb dX10_figuresAt_4 hl (by decide) rfl (fun ls hl => ?_)
  refine loopW (σ := Int32 × Int32 × (Nat → Int32)) (fun v => (20000 - v.1.toInt).toNat) (fun v H locs ls => ((0 : Int) ≤ v.1.toInt ∧ v.1.toInt ≤ 20000) ∧ (rg v.2.2 12 0 15) ∧ va_P (dC, dI) vwCl [(o0, .inr (8, [.int x_th, .ref mwo, .ref mim, .ref mhi, .ref mlu, .ref mtp, .int x_td, .ref mfv, .int x_sz, .int x_at, .int x_fr, .int x_to, .int x_va, .int x_fk, .int x_fp, .ref mfr, .ref mwt, .int x_wt, .int x_op, .int x_jo, .ref mfg, .ref mpl, .long x_dr, .ref mtm, .ref mfa, .ref mqu, .ref mmo, .ref mwy, .ref mwn, .ref mma, .ref mwi, .ref mnu, .ref mmv])), (mwo, .inl (c_wo, 1875, .inl w_wo)), (mlu, .inl (c_lu, 20000, .inl w_lu)), (mfg, .inl (c_fg, 12, .inl v.2.2))] H ∧ va_D A [(o0, .inr (8, [.int x_th, .ref mwo, .ref mim, .ref mhi, .ref mlu, .ref mtp, .int x_td, .ref mfv, .int x_sz, .int x_at, .int x_fr, .int x_to, .int x_va, .int x_fk, .int x_fp, .ref mfr, .ref mwt, .int x_wt, .int x_op, .int x_jo, .ref mfg, .ref mpl, .long x_dr, .ref mtm, .ref mfa, .ref mqu, .ref mmo, .ref mwy, .ref mwn, .ref mma, .ref mwi, .ref mnu, .ref mmv])), (mwo, .inl (c_wo, 1875, .inl w_wo)), (mlu, .inl (c_lu, 20000, .inl w_lu)), (mfg, .inl (c_fg, 12, .inl v.2.2))] ∧ va_S A s.heap H locs ∧ lv_has ls 6 [(5, .int v.1), (4, .int v.2.1), (0, .ref o0), (1, .int a1), (2, .int a2), (3, .int a3)]) (fun v H locs ls hI ih_6_765 => ?_) ((0 : Int32), (0 : Int32), w_fg) ⟨(show (0 : Int) ≤ (0 : Int32).toInt ∧ (0 : Int32).toInt ≤ 20000 from (rg_w (by decide : (0 : Int) ≤ (0 : Int32).toInt ∧ (0 : Int32).toInt ≤ 0) (by decide) (by decide))), (show rg w_fg 12 0 15 from ha_mfg), hP, hD, hS, lv_sub hl [0, 1, 2, 3, 4, 5] rfl⟩
  obtain ⟨y_418, y_419, f_420⟩ := v
  obtain ⟨b_y_418, ha_f_420, hP, hD, hS, hl⟩ := hI
  have b_y_418 : (0 : Int) ≤ y_418.toInt ∧ y_418.toInt ≤ 20000 := b_y_418
  have ha_f_420 : rg f_420 12 0 15 := ha_f_420
  have hP : va_P (dC, dI) vwCl [(o0, .inr (8, [.int x_th, .ref mwo, .ref mim, .ref mhi, .ref mlu, .ref mtp, .int x_td, .ref mfv, .int x_sz, .int x_at, .int x_fr, .int x_to, .int x_va, .int x_fk, .int x_fp, .ref mfr, .ref mwt, .int x_wt, .int x_op, .int x_jo, .ref mfg, .ref mpl, .long x_dr, .ref mtm, .ref mfa, .ref mqu, .ref mmo, .ref mwy, .ref mwn, .ref mma, .ref mwi, .ref mnu, .ref mmv])), (mwo, .inl (c_wo, 1875, .inl w_wo)), (mlu, .inl (c_lu, 20000, .inl w_lu)), (mfg, .inl (c_fg, 12, .inl f_420))] H := hP
  have hD : va_D A [(o0, .inr (8, [.int x_th, .ref mwo, .ref mim, .ref mhi, .ref mlu, .ref mtp, .int x_td, .ref mfv, .int x_sz, .int x_at, .int x_fr, .int x_to, .int x_va, .int x_fk, .int x_fp, .ref mfr, .ref mwt, .int x_wt, .int x_op, .int x_jo, .ref mfg, .ref mpl, .long x_dr, .ref mtm, .ref mfa, .ref mqu, .ref mmo, .ref mwy, .ref mwn, .ref mma, .ref mwi, .ref mnu, .ref mmv])), (mwo, .inl (c_wo, 1875, .inl w_wo)), (mlu, .inl (c_lu, 20000, .inl w_lu)), (mfg, .inl (c_fg, 12, .inl f_420))] := hD
  have hl : lv_has ls 6 [(5, .int y_418), (4, .int y_419), (0, .ref o0), (1, .int a1), (2, .int a2), (3, .int a3)] := hl
  refine lv_iload hx hb dX10_figuresAt_6 (lv_at hl 0 rfl) ?_
  refine lv_aload_n hx hb dX10_figuresAt_8 rfl (lv_at hl 2 rfl) ?_
  refine va_get (D := (dC, dI)) (ci := 8) (v := .ref mwo) (C := RX10) (T := TX10) (N := 33) hx hb hts iX10_figuresAt_X10 hown hK hP 0 rfl rfl 1 (by decide) (hts (.fieldLink RX10 9 "LuckyTicketModel" "world" "[I") (List.mem_of_getElem? (i := 1) rfl)) (fun _ h9 => h9) rfl dX10_figuresAt_9 ?_
  refine lv_iconst (v := 2) hx hb dX10_figuresAt_12 (by decide) ?_
  refine va_iald hx hb hK hP 1 0 rfl rfl (vp_in_b (by decide : (2 : Int) ≤ (2 : Int32).toInt ∧ (2 : Int32).toInt ≤ 2) (by decide) (by decide)) dX10_figuresAt_13 ?_
  refine lv_topi (fun z_766 e_z_766 => ?_)
  obtain rfl : z_766 = tk := e_z_766.trans hw2
  refine lv_icmp_ge (tgt := 62) hx hb dX10_figuresAt_14 (by decide) (fun c_767 => ?_) (fun c_767 => ?_)
  ·
    have n_c_767 : (tk.toInt : Int) ≤ y_418.toInt := c_ge rfl rfl c_767
    refine lv_iload hx hb dX10_figuresAt_62 (lv_at hl 1 rfl) ?_
    have hP9 := hP.sub (ws' := [(o0, .inr (8, [.int x_th, .ref mwo, .ref mim, .ref mhi, .ref mlu, .ref mtp, .int x_td, .ref mfv, .int x_sz, .int x_at, .int x_fr, .int x_to, .int x_va, .int x_fk, .int x_fp, .ref mfr, .ref mwt, .int x_wt, .int x_op, .int x_jo, .ref mfg, .ref mpl, .long x_dr, .ref mtm, .ref mfa, .ref mqu, .ref mmo, .ref mwy, .ref mwn, .ref mma, .ref mwi, .ref mnu, .ref mmv])), (mwo, .inl (c_wo, 1875, .inl w_wo)), (mlu, .inl (c_lu, 20000, .inl w_lu)), (mfg, .inl (c_fg, 12, .inl f_420))]) [0, 1, 2, 3] rfl
    have hD9 := hD.sub (ws' := [(o0, .inr (8, [.int x_th, .ref mwo, .ref mim, .ref mhi, .ref mlu, .ref mtp, .int x_td, .ref mfv, .int x_sz, .int x_at, .int x_fr, .int x_to, .int x_va, .int x_fk, .int x_fp, .ref mfr, .ref mwt, .int x_wt, .int x_op, .int x_jo, .ref mfg, .ref mpl, .long x_dr, .ref mtm, .ref mfa, .ref mqu, .ref mmo, .ref mwy, .ref mwn, .ref mma, .ref mwi, .ref mnu, .ref mmv])), (mwo, .inl (c_wo, 1875, .inl w_wo)), (mlu, .inl (c_lu, 20000, .inl w_lu)), (mfg, .inl (c_fg, 12, .inl f_420))]) [0, 1, 2, 3] (by decide) rfl
    have hK9 := hK.sub (tys' := [(c_wo, .int), (c_lu, .int), (c_fg, .int)]) [0, 1, 2] rfl
    exact W.iret (v := y_419) hx hb hr (fun t ht hW => ⟨⟨y_419, (), rfl, trivial, f_420, ha_f_420, by rw [ht]; exact hP9, va_K.moved hW.alike hK9, hD9⟩, hS.F ht⟩) hS.2.2 dX10_figuresAt_64
  ·
    have n_c_767 : (y_418.toInt : Int) < tk.toInt := c_nge rfl rfl c_767
    have b_y_418 : (0 : Int) ≤ y_418.toInt ∧ y_418.toInt ≤ 19999 := r_lt1 b_y_418 b_tk n_c_767 (by decide)
    have b_tk : (1 : Int) ≤ tk.toInt ∧ tk.toInt ≤ 20000 := r_lt2 b_y_418 b_tk n_c_767 (by decide)
    refine lv_aload_n hx hb dX10_figuresAt_17 rfl (lv_at hl 2 rfl) ?_
    refine lv_iload_n hx hb dX10_figuresAt_18 rfl (lv_at hl 3 rfl) ?_
    refine lv_iload hx hb dX10_figuresAt_19 (lv_at hl 0 rfl) ?_
    refine vp_callSi (W.runV (As := [.int a1, .int y_418]) (rest := []) ⟨hx, hb, hml, hown, hts⟩ (kX10_isLucky l dC dI o0 x_th mwo mim mhi mlu mtp x_td mfv x_sz x_at x_fr x_to x_va x_fk x_fp mfr mwt x_wt x_op x_jo mfg mpl x_dr mtm mfa mqu mmo mwy mwn mma mwi mnu mmv c_wo c_lu w_wo w_lu ln bs tk lw li a1 y_418 b_ln b_bs (rg_w b_tk (by decide) (by decide)) b_lw b_y_418 (hw0) (hw1) (hw2) (hw3) (hw4) (hwz)) (cwV 2 hts gX10_figuresAt__X10_isLucky_V316 rfl rfl rfl (by decide +kernel) ⟨lel 1 1 rfl, lel 22 23 rfl⟩) ⟨pw_fb, va_recv hK hP (ci := 8) (q0 := 0) rfl rfl, (pw_use hP hK hN [0, 1, 2] rfl [0, 1] rfl)⟩ rfl rfl hl.1 rfl (lv_room (Nat.le_of_ble_eq_true rfl)) dX10_figuresAt_21 ⟨lel 0 0 rfl, lel 0 0 rfl⟩) (fun r_768 h_r_768 => ?_)
    have b_r_768 := h_r_768
    have b_r_768 : (0 : Int) ≤ r_768.toInt ∧ r_768.toInt ≤ 1 := b_r_768
    refine cutW (σ := Int32 × (Nat → Int32)) (pc2 := 56) (st2 := fun v => []) (cells2 := 0) (slots2 := 0) (fun v H locs ls => (rg v.2 12 0 15) ∧ va_P (dC, dI) vwCl [(o0, .inr (8, [.int x_th, .ref mwo, .ref mim, .ref mhi, .ref mlu, .ref mtp, .int x_td, .ref mfv, .int x_sz, .int x_at, .int x_fr, .int x_to, .int x_va, .int x_fk, .int x_fp, .ref mfr, .ref mwt, .int x_wt, .int x_op, .int x_jo, .ref mfg, .ref mpl, .long x_dr, .ref mtm, .ref mfa, .ref mqu, .ref mmo, .ref mwy, .ref mwn, .ref mma, .ref mwi, .ref mnu, .ref mmv])), (mwo, .inl (c_wo, 1875, .inl w_wo)), (mlu, .inl (c_lu, 20000, .inl w_lu)), (mfg, .inl (c_fg, 12, .inl v.2))] H ∧ va_D A [(o0, .inr (8, [.int x_th, .ref mwo, .ref mim, .ref mhi, .ref mlu, .ref mtp, .int x_td, .ref mfv, .int x_sz, .int x_at, .int x_fr, .int x_to, .int x_va, .int x_fk, .int x_fp, .ref mfr, .ref mwt, .int x_wt, .int x_op, .int x_jo, .ref mfg, .ref mpl, .long x_dr, .ref mtm, .ref mfa, .ref mqu, .ref mmo, .ref mwy, .ref mwn, .ref mma, .ref mwi, .ref mnu, .ref mmv])), (mwo, .inl (c_wo, 1875, .inl w_wo)), (mlu, .inl (c_lu, 20000, .inl w_lu)), (mfg, .inl (c_fg, 12, .inl v.2))] ∧ va_S A s.heap H locs ∧ lv_has ls 6 [(4, .int v.1), (5, .int y_418), (0, .ref o0), (1, .int a1), (2, .int a2), (3, .int a3)]) (fun v H locs ls hI => ?_) (fun hj_56_779 => ?_)
    ·
      obtain ⟨y_778, f_779⟩ := v
      obtain ⟨ha_f_779, hP, hD, hS, hl⟩ := hI
      have ha_f_779 : rg f_779 12 0 15 := ha_f_779
      have hP : va_P (dC, dI) vwCl [(o0, .inr (8, [.int x_th, .ref mwo, .ref mim, .ref mhi, .ref mlu, .ref mtp, .int x_td, .ref mfv, .int x_sz, .int x_at, .int x_fr, .int x_to, .int x_va, .int x_fk, .int x_fp, .ref mfr, .ref mwt, .int x_wt, .int x_op, .int x_jo, .ref mfg, .ref mpl, .long x_dr, .ref mtm, .ref mfa, .ref mqu, .ref mmo, .ref mwy, .ref mwn, .ref mma, .ref mwi, .ref mnu, .ref mmv])), (mwo, .inl (c_wo, 1875, .inl w_wo)), (mlu, .inl (c_lu, 20000, .inl w_lu)), (mfg, .inl (c_fg, 12, .inl f_779))] H := hP
      have hD : va_D A [(o0, .inr (8, [.int x_th, .ref mwo, .ref mim, .ref mhi, .ref mlu, .ref mtp, .int x_td, .ref mfv, .int x_sz, .int x_at, .int x_fr, .int x_to, .int x_va, .int x_fk, .int x_fp, .ref mfr, .ref mwt, .int x_wt, .int x_op, .int x_jo, .ref mfg, .ref mpl, .long x_dr, .ref mtm, .ref mfa, .ref mqu, .ref mmo, .ref mwy, .ref mwn, .ref mma, .ref mwi, .ref mnu, .ref mmv])), (mwo, .inl (c_wo, 1875, .inl w_wo)), (mlu, .inl (c_lu, 20000, .inl w_lu)), (mfg, .inl (c_fg, 12, .inl f_779))] := hD
      have hl : lv_has ls 6 [(4, .int y_778), (5, .int y_418), (0, .ref o0), (1, .int a1), (2, .int a2), (3, .int a3)] := hl
      obtain ⟨z_780, e_z_780⟩ : ∃ y : Int32, y = y_418 + 1 := ⟨_, rfl⟩
      refine lv_iinc (v := z_780) (lv' := [(5, .int z_780), (4, .int y_778), (0, .ref o0), (1, .int a1), (2, .int a2), (3, .int a3)]) hx hb dX10_figuresAt_56 hl (k := 1) rfl (by rw [e_z_780]; rfl) (by decide) rfl (fun ls hl => ?_)
      obtain ⟨q_z_780, b_z_780⟩ := ti_add (lo := 1) (hi := 20000) e_z_780 rfl (by decide : (1 : Int32).toInt = 1) b_y_418 (by decide : (1 : Int) ≤ (1 : Int32).toInt ∧ (1 : Int32).toInt ≤ 1) (by decide)
      refine lv_goto (tgt := 6) hx hb dX10_figuresAt_59 (by decide) ?_
      exact ih_6_765 (z_780, y_778, f_779) _ _ _ ⟨(show (0 : Int) ≤ z_780.toInt ∧ z_780.toInt ≤ 20000 from (rg_w b_z_780 (by decide) (by decide))), (show rg f_779 12 0 15 from ha_f_779), hP, hD, hS, lv_sub hl [0, 1, 2, 3, 4, 5] rfl⟩ (show (20000 - z_780.toInt).toNat < (20000 - y_418.toInt).toNat by omega)
    ·
      refine lv_if_ne (tgt := 30) hx hb dX10_figuresAt_24 (by decide) (fun c_769 => ?_) (fun c_769 => ?_)
      ·
        have n_c_769 : (r_768.toInt : Int) ≠ 0 := c_ne rfl (by decide) c_769
        have b_r_768 : (1 : Int) ≤ r_768.toInt ∧ r_768.toInt ≤ 1 := r_ne1 b_r_768 (by decide : (0 : Int) ≤ (0 : Int32).toInt ∧ (0 : Int32).toInt ≤ 0) n_c_769 (by decide)
        refine lv_aload_n hx hb dX10_figuresAt_30 rfl (lv_at hl 2 rfl) ?_
        refine lv_iload hx hb dX10_figuresAt_31 (lv_at hl 0 rfl) ?_
        have hFc := va_free (wc := [(o0, .inr (8, [.int x_th, .ref mwo, .ref mim, .ref mhi, .ref mlu, .ref mtp, .int x_td, .ref mfv, .int x_sz, .int x_at, .int x_fr, .int x_to, .int x_va, .int x_fk, .int x_fp, .ref mfr, .ref mwt, .int x_wt, .int x_op, .int x_jo, .ref mfg, .ref mpl, .long x_dr, .ref mtm, .ref mfa, .ref mqu, .ref mmo, .ref mwy, .ref mwn, .ref mma, .ref mwi, .ref mnu, .ref mmv])), (mwo, .inl (c_wo, 1875, .inl w_wo)), (mfg, .inl (c_fg, 12, .inl f_420))]) hD hS hA [0, 1, 3] rfl
        refine va_callv (va_runV (As := [.int y_418]) (rest := []) ⟨hx, hb, hml, hown, hts⟩ (kX10_fillFigures l dC dI o0 x_th mwo mim mhi mlu mtp x_td mfv x_sz x_at x_fr x_to x_va x_fk x_fp mfr mwt x_wt x_op x_jo mfg mpl x_dr mtm mfa mqu mmo mwy mwn mma mwi mnu mmv c_wo c_fg w_wo f_420 ln bs tk lw li y_418 (H.size) b_ln b_bs (rg_w b_tk (by decide) (by decide)) b_lw b_y_418 ha_f_420 (hw0) (hw1) (hw2) (hw3) (hw4) (hwz)) (cwV 1 hts gX10_figuresAt__X10_fillFigures_V302 rfl rfl rfl (by decide +kernel) ⟨lel 1 1 rfl, lel 23 23 rfl⟩) ⟨hw_fb, va_recv hK hP (ci := 8) (q0 := 0) rfl rfl, (hw_use hP hD hK hN [0, 1, 3] rfl (by decide) rfl [0, 2] rfl)⟩ rfl rfl hl.1 rfl (lv_room (Nat.le_of_ble_eq_true rfl)) dX10_figuresAt_33 ⟨lel 0 0 rfl, lel 0 0 rfl⟩) hS (fun q _ h => hFc q h) hFc (fun u_782 t H1 locs ht hvm hw_r_781 hB hz1 hk1 hS => ?_)
        obtain ⟨o0_783, ha_784, hP1, hK1, hD1⟩ := hB
        rw [ht] at hP1
        have hK1 := va_K.moved hvm.symm hK1
        obtain ⟨hP, hD⟩ := va_join (wr := [(mlu, .inl (c_lu, 20000, .inl w_lu))]) (w1 := [(o0, .inr (8, [.int x_th, .ref mwo, .ref mim, .ref mhi, .ref mlu, .ref mtp, .int x_td, .ref mfv, .int x_sz, .int x_at, .int x_fr, .int x_to, .int x_va, .int x_fk, .int x_fp, .ref mfr, .ref mwt, .int x_wt, .int x_op, .int x_jo, .ref mfg, .ref mpl, .long x_dr, .ref mtm, .ref mfa, .ref mqu, .ref mmo, .ref mwy, .ref mwn, .ref mma, .ref mwi, .ref mnu, .ref mmv])), (mwo, .inl (c_wo, 1875, .inl w_wo)), (mfg, .inl (c_fg, 12, .inl o0_783))]) hP hD [0, 1, 3] [2] rfl rfl (by decide) (by decide) hk1 hFc hP1 hD1
        have hK := (hK.sub (tys' := [(c_lu, .int)]) [1] rfl).app hK1
        generalize H1 = H at hP hS ⊢
        have hP := hP.sub (ws' := [(o0, .inr (8, [.int x_th, .ref mwo, .ref mim, .ref mhi, .ref mlu, .ref mtp, .int x_td, .ref mfv, .int x_sz, .int x_at, .int x_fr, .int x_to, .int x_va, .int x_fk, .int x_fp, .ref mfr, .ref mwt, .int x_wt, .int x_op, .int x_jo, .ref mfg, .ref mpl, .long x_dr, .ref mtm, .ref mfa, .ref mqu, .ref mmo, .ref mwy, .ref mwn, .ref mma, .ref mwi, .ref mnu, .ref mmv])), (mwo, .inl (c_wo, 1875, .inl w_wo)), (mlu, .inl (c_lu, 20000, .inl w_lu)), (mfg, .inl (c_fg, 12, .inl o0_783))]) [1, 2, 0, 3] rfl
        have hD := hD.sub (ws' := [(o0, .inr (8, [.int x_th, .ref mwo, .ref mim, .ref mhi, .ref mlu, .ref mtp, .int x_td, .ref mfv, .int x_sz, .int x_at, .int x_fr, .int x_to, .int x_va, .int x_fk, .int x_fp, .ref mfr, .ref mwt, .int x_wt, .int x_op, .int x_jo, .ref mfg, .ref mpl, .long x_dr, .ref mtm, .ref mfa, .ref mqu, .ref mmo, .ref mwy, .ref mwn, .ref mma, .ref mwi, .ref mnu, .ref mmv])), (mwo, .inl (c_wo, 1875, .inl w_wo)), (mlu, .inl (c_lu, 20000, .inl w_lu)), (mfg, .inl (c_fg, 12, .inl o0_783))]) [1, 2, 0, 3] (by decide) rfl
        have hK := hK.sub (tys' := [(c_wo, .int), (c_lu, .int), (c_fg, .int)]) [1, 0, 2] rfl
        have hP : va_P (dC, dI) vwCl [(o0, .inr (8, [.int x_th, .ref mwo, .ref mim, .ref mhi, .ref mlu, .ref mtp, .int x_td, .ref mfv, .int x_sz, .int x_at, .int x_fr, .int x_to, .int x_va, .int x_fk, .int x_fp, .ref mfr, .ref mwt, .int x_wt, .int x_op, .int x_jo, .ref mfg, .ref mpl, .long x_dr, .ref mtm, .ref mfa, .ref mqu, .ref mmo, .ref mwy, .ref mwn, .ref mma, .ref mwi, .ref mnu, .ref mmv])), (mwo, .inl (c_wo, 1875, .inl w_wo)), (mlu, .inl (c_lu, 20000, .inl w_lu)), (mfg, .inl (c_fg, 12, .inl o0_783))] H := hP
        have hD : va_D A [(o0, .inr (8, [.int x_th, .ref mwo, .ref mim, .ref mhi, .ref mlu, .ref mtp, .int x_td, .ref mfv, .int x_sz, .int x_at, .int x_fr, .int x_to, .int x_va, .int x_fk, .int x_fp, .ref mfr, .ref mwt, .int x_wt, .int x_op, .int x_jo, .ref mfg, .ref mpl, .long x_dr, .ref mtm, .ref mfa, .ref mqu, .ref mmo, .ref mwy, .ref mwn, .ref mma, .ref mwi, .ref mnu, .ref mmv])), (mwo, .inl (c_wo, 1875, .inl w_wo)), (mlu, .inl (c_lu, 20000, .inl w_lu)), (mfg, .inl (c_fg, 12, .inl o0_783))] := hD
        have hK : va_K (dC, dI) vwCl [(c_wo, .int), (c_lu, .int), (c_fg, .int)] s := hK
        refine lv_iload hx hb dX10_figuresAt_36 (lv_at hl 1 rfl) ?_
        refine lv_aload_n hx hb dX10_figuresAt_38 rfl (lv_at hl 2 rfl) ?_
        refine va_get (D := (dC, dI)) (ci := 8) (v := .ref mfg) (C := RX10) (T := TX10) (N := 33) hx hb hts iX10_figuresAt_X10 hown hK hP 0 rfl rfl 20 (by decide) (hts (.fieldLink RX10 40 "LuckyTicketModel" "figures" "[I") (List.mem_of_getElem? (i := 12) rfl)) (fun _ h9 => h9) rfl dX10_figuresAt_39 ?_
        refine lv_iload_n hx hb dX10_figuresAt_42 rfl (lv_at hl 4 rfl) ?_
        refine va_iald hx hb hK hP 3 2 rfl rfl (vp_in_b b_a2 (by decide) (by decide)) dX10_figuresAt_43 ?_
        refine lv_topi (fun z_785 e_z_785 => ?_)
        have b_z_785 : (0 : Int) ≤ z_785.toInt ∧ z_785.toInt ≤ 15 := rg_at ha_784 (vp_in_b b_a2 (by decide) (by decide)) e_z_785
        refine lv_iload_n hx hb dX10_figuresAt_44 rfl (lv_at hl 5 rfl) ?_
        refine cutW (σ := Int32) (pc2 := 53) (st2 := fun v => [.int v, .int y_419]) (cells2 := 0) (slots2 := 0) (fun v H locs ls => ((0 : Int) ≤ v.toInt ∧ v.toInt ≤ 1) ∧ va_P (dC, dI) vwCl [(o0, .inr (8, [.int x_th, .ref mwo, .ref mim, .ref mhi, .ref mlu, .ref mtp, .int x_td, .ref mfv, .int x_sz, .int x_at, .int x_fr, .int x_to, .int x_va, .int x_fk, .int x_fp, .ref mfr, .ref mwt, .int x_wt, .int x_op, .int x_jo, .ref mfg, .ref mpl, .long x_dr, .ref mtm, .ref mfa, .ref mqu, .ref mmo, .ref mwy, .ref mwn, .ref mma, .ref mwi, .ref mnu, .ref mmv])), (mwo, .inl (c_wo, 1875, .inl w_wo)), (mlu, .inl (c_lu, 20000, .inl w_lu)), (mfg, .inl (c_fg, 12, .inl o0_783))] H ∧ va_D A [(o0, .inr (8, [.int x_th, .ref mwo, .ref mim, .ref mhi, .ref mlu, .ref mtp, .int x_td, .ref mfv, .int x_sz, .int x_at, .int x_fr, .int x_to, .int x_va, .int x_fk, .int x_fp, .ref mfr, .ref mwt, .int x_wt, .int x_op, .int x_jo, .ref mfg, .ref mpl, .long x_dr, .ref mtm, .ref mfa, .ref mqu, .ref mmo, .ref mwy, .ref mwn, .ref mma, .ref mwi, .ref mnu, .ref mmv])), (mwo, .inl (c_wo, 1875, .inl w_wo)), (mlu, .inl (c_lu, 20000, .inl w_lu)), (mfg, .inl (c_fg, 12, .inl o0_783))] ∧ va_S A s.heap H locs ∧ lv_has ls 6 [(5, .int y_418), (4, .int y_419), (0, .ref o0), (1, .int a1), (2, .int a2), (3, .int a3)]) (fun v H locs ls hI => ?_) (fun hj_53_787 => ?_)
        ·
          obtain ⟨y_787, rfl⟩ : ∃ z, z = v := ⟨_, rfl⟩
          obtain ⟨b_y_787, hP, hD, hS, hl⟩ := hI
          have b_y_787 : (0 : Int) ≤ y_787.toInt ∧ y_787.toInt ≤ 1 := b_y_787
          have hP : va_P (dC, dI) vwCl [(o0, .inr (8, [.int x_th, .ref mwo, .ref mim, .ref mhi, .ref mlu, .ref mtp, .int x_td, .ref mfv, .int x_sz, .int x_at, .int x_fr, .int x_to, .int x_va, .int x_fk, .int x_fp, .ref mfr, .ref mwt, .int x_wt, .int x_op, .int x_jo, .ref mfg, .ref mpl, .long x_dr, .ref mtm, .ref mfa, .ref mqu, .ref mmo, .ref mwy, .ref mwn, .ref mma, .ref mwi, .ref mnu, .ref mmv])), (mwo, .inl (c_wo, 1875, .inl w_wo)), (mlu, .inl (c_lu, 20000, .inl w_lu)), (mfg, .inl (c_fg, 12, .inl o0_783))] H := hP
          have hD : va_D A [(o0, .inr (8, [.int x_th, .ref mwo, .ref mim, .ref mhi, .ref mlu, .ref mtp, .int x_td, .ref mfv, .int x_sz, .int x_at, .int x_fr, .int x_to, .int x_va, .int x_fk, .int x_fp, .ref mfr, .ref mwt, .int x_wt, .int x_op, .int x_jo, .ref mfg, .ref mpl, .long x_dr, .ref mtm, .ref mfa, .ref mqu, .ref mmo, .ref mwy, .ref mwn, .ref mma, .ref mwi, .ref mnu, .ref mmv])), (mwo, .inl (c_wo, 1875, .inl w_wo)), (mlu, .inl (c_lu, 20000, .inl w_lu)), (mfg, .inl (c_fg, 12, .inl o0_783))] := hD
          have hl : lv_has ls 6 [(5, .int y_418), (4, .int y_419), (0, .ref o0), (1, .int a1), (2, .int a2), (3, .int a3)] := hl
          refine lv_iadd hx hb dX10_figuresAt_53 ?_
          refine lv_topi (fun z_788 e_z_788 => ?_)
          refine lv_istore (lv' := [(4, .int z_788), (5, .int y_418), (0, .ref o0), (1, .int a1), (2, .int a2), (3, .int a3)]) hx hb dX10_figuresAt_54 hl (by decide) rfl (fun ls hl => ?_)
          exact hj_56_779 (z_788, o0_783) _ _ _ ⟨(show rg o0_783 12 0 15 from ha_784), hP, hD, hS, lv_sub hl [0, 1, 2, 3, 4, 5] rfl⟩
        ·
          refine lv_icmp_ne (tgt := 52) hx hb dX10_figuresAt_45 (by decide) (fun c_786 => ?_) (fun c_786 => ?_)
          ·
            have n_c_786 : (z_785.toInt : Int) ≠ a3.toInt := c_ne rfl rfl c_786
            refine lv_iconst (v := 0) hx hb dX10_figuresAt_52 (by decide) ?_
            exact hj_53_787 (0 : Int32) _ _ _ ⟨(show (0 : Int) ≤ (0 : Int32).toInt ∧ (0 : Int32).toInt ≤ 1 from (rg_w (by decide : (0 : Int) ≤ (0 : Int32).toInt ∧ (0 : Int32).toInt ≤ 0) (by decide) (by decide))), hP, hD, hS, lv_sub hl [0, 1, 2, 3, 4, 5] rfl⟩
          ·
            have n_c_786 : (z_785.toInt : Int) = a3.toInt := c_eq rfl rfl c_786
            have b_a3 : (0 : Int) ≤ a3.toInt ∧ a3.toInt ≤ 15 := r_eq2 b_z_785 (ti_rng a3) n_c_786 (by decide)
            refine lv_iconst (v := 1) hx hb dX10_figuresAt_48 (by decide) ?_
            refine lv_goto (tgt := 53) hx hb dX10_figuresAt_49 (by decide) ?_
            exact hj_53_787 (1 : Int32) _ _ _ ⟨(show (0 : Int) ≤ (1 : Int32).toInt ∧ (1 : Int32).toInt ≤ 1 from (rg_w (by decide : (1 : Int) ≤ (1 : Int32).toInt ∧ (1 : Int32).toInt ≤ 1) (by decide) (by decide))), hP, hD, hS, lv_sub hl [0, 1, 2, 3, 4, 5] rfl⟩
      ·
        have n_c_769 : (r_768.toInt : Int) = 0 := c_eq rfl (by decide) c_769
        have b_r_768 : (0 : Int) ≤ r_768.toInt ∧ r_768.toInt ≤ 0 := r_eq1 b_r_768 (by decide : (0 : Int) ≤ (0 : Int32).toInt ∧ (0 : Int32).toInt ≤ 0) n_c_769 (by decide)
        refine lv_goto (tgt := 56) hx hb dX10_figuresAt_27 (by decide) ?_
        exact hj_56_779 (y_419, f_420) _ _ _ ⟨(show rg f_420 12 0 15 from ha_f_420), hP, hD, hS, lv_sub hl [1, 0, 2, 3, 4, 5] rfl⟩
theorem dX10_at_0 : decode cX10_at 0 = .ok (.aload_n 0, 1) := by decide +kernel
theorem dX10_at_1 : decode cX10_at 1 = .ok (.iload_n 1, 1) := by decide +kernel
theorem dX10_at_2 : decode cX10_at 2 = .ok (.invokevirtual 89, 3) := by decide +kernel
theorem dX10_at_5 : decode cX10_at 5 = .ok (.ifCond .eq 39, 3) := by decide +kernel
theorem dX10_at_8 : decode cX10_at 8 = .ok (.aload_n 0, 1) := by decide +kernel
theorem dX10_at_9 : decode cX10_at 9 = .ok (.iload_n 2, 1) := by decide +kernel
theorem dX10_at_10 : decode cX10_at 10 = .ok (.invokevirtual 308, 3) := by decide +kernel
theorem dX10_at_13 : decode cX10_at 13 = .ok (.ifCond .eq 31, 3) := by decide +kernel
theorem dX10_at_16 : decode cX10_at 16 = .ok (.iload_n 3, 1) := by decide +kernel
theorem dX10_at_17 : decode cX10_at 17 = .ok (.i2l, 1) := by decide +kernel
theorem dX10_at_18 : decode cX10_at 18 = .ok (.lconst 0, 1) := by decide +kernel
theorem dX10_at_19 : decode cX10_at 19 = .ok (.aload_n 0, 1) := by decide +kernel
theorem dX10_at_20 : decode cX10_at 20 = .ok (.getfield 9, 3) := by decide +kernel
theorem dX10_at_23 : decode cX10_at 23 = .ok (.iconst 1, 1) := by decide +kernel
theorem dX10_at_24 : decode cX10_at 24 = .ok (.iaload, 1) := by decide +kernel
theorem dX10_at_25 : decode cX10_at 25 = .ok (.iconst 1, 1) := by decide +kernel
theorem dX10_at_26 : decode cX10_at 26 = .ok (.isub, 1) := by decide +kernel
theorem dX10_at_27 : decode cX10_at 27 = .ok (.i2l, 1) := by decide +kernel
theorem dX10_at_28 : decode cX10_at 28 = .ok (.invokestatic 82, 3) := by decide +kernel
theorem dX10_at_31 : decode cX10_at 31 = .ok (.ifCond .eq 13, 3) := by decide +kernel
theorem dX10_at_34 : decode cX10_at 34 = .ok (.aload_n 0, 1) := by decide +kernel
theorem dX10_at_35 : decode cX10_at 35 = .ok (.iload_n 1, 1) := by decide +kernel
theorem dX10_at_36 : decode cX10_at 36 = .ok (.iload_n 2, 1) := by decide +kernel
theorem dX10_at_37 : decode cX10_at 37 = .ok (.iload_n 3, 1) := by decide +kernel
theorem dX10_at_38 : decode cX10_at 38 = .ok (.invokevirtual 430, 3) := by decide +kernel
theorem dX10_at_41 : decode cX10_at 41 = .ok (.goto 5, 3) := by decide +kernel
theorem dX10_at_44 : decode cX10_at 44 = .ok (.bipush (-2), 2) := by decide +kernel
theorem dX10_at_46 : decode cX10_at 46 = .ok (.ireturn, 1) := by decide +kernel
def uX10_at : List Cond := .code yX10_at cX10_at 4 (some .int) :: ([.methodLink RX10 89 yX10_isLaw, .instanceMethod yX10_isLaw, .selects RX10 yX10_isLaw yX10_isLaw, .initialized RX10, .code yX10_isLaw cX10_isLaw 2 (some .boolean), .fieldLink RX10 9 "LuckyTicketModel" "world" "[I", .methodLink RX10 82 yX10_in, .static yX10_in, .code yX10_in cX10_in 6 (some .boolean), .methodLink RX10 308 yX10_isPlace, .instanceMethod yX10_isPlace, .selects RX10 yX10_isPlace yX10_isPlace, .code yX10_isPlace cX10_isPlace 2 (some .boolean), .methodLink RX10 430 yX10_figuresAt, .instanceMethod yX10_figuresAt, .selects RX10 yX10_figuresAt yX10_figuresAt, .code yX10_figuresAt cX10_figuresAt 6 (some .int), .methodLink RX10 316 yX10_isLucky, .instanceMethod yX10_isLucky, .selects RX10 yX10_isLucky yX10_isLucky, .code yX10_isLucky cX10_isLucky 3 (some .boolean), .fieldLink RX10 20 "LuckyTicketModel" "luck" "[I", .methodLink RX10 302 yX10_fillFigures, .instanceMethod yX10_fillFigures, .selects RX10 yX10_fillFigures yX10_fillFigures, .code yX10_fillFigures cX10_fillFigures 4 none, .fieldLink RX10 40 "LuckyTicketModel" "figures" "[I"] ++ wsX100)
theorem iX10_at_X10 : ∀ w ∈ wsX100, w ∈ uX10_at := fun _ h => List.mem_cons_of_mem _ (List.mem_append_right _ h)
set_option maxRecDepth 20000 in
theorem gX10_at__X10_isLaw_V89 : GoodIn uX10_at (wsV RX10 89 RX10 yX10_isLaw uX10_isLaw) := goodIn_p _ [5, 9] rfl (by decide +kernel)
set_option maxRecDepth 20000 in
theorem gX10_at__X10_isPlace_V308 : GoodIn uX10_at (wsV RX10 308 RX10 yX10_isPlace uX10_isPlace) := goodIn_p _ [13, 9] rfl (by decide +kernel)
set_option maxRecDepth 20000 in
theorem gX10_at__X10_in_S82 : GoodIn uX10_at (va_wsS RX10 82 yX10_in uX10_in) := goodIn_p _ [9] rfl (by decide +kernel)
set_option maxRecDepth 20000 in
theorem gX10_at__X10_figuresAt_V430 : GoodIn uX10_at (wsV RX10 430 RX10 yX10_figuresAt uX10_figuresAt) := goodIn_p _ [17, 21, 26] rfl (by decide +kernel)
set_option maxHeartbeats 4000000 in
set_option maxRecDepth 100000 in
theorem kX10_at (l : Launch) (dC : Nat → ClassId) (dI : Nat → Nat → Nat) (o0 : Nat) (x_th : Int32) (mwo : Nat) (mim : Nat) (mhi : Nat) (mlu : Nat) (mtp : Nat) (x_td : Int32) (mfv : Nat) (x_sz : Int32) (x_at : Int32) (x_fr : Int32) (x_to : Int32) (x_va : Int32) (x_fk : Int32) (x_fp : Int32) (mfr : Nat) (mwt : Nat) (x_wt : Int32) (x_op : Int32) (x_jo : Int32) (mfg : Nat) (mpl : Nat) (x_dr : Int64) (mtm : Nat) (mfa : Nat) (mqu : Nat) (mmo : Nat) (mwy : Nat) (mwn : Nat) (mma : Nat) (mwi : Nat) (mnu : Nat) (mmv : Nat) (c_wo : ClassId) (c_lu : ClassId) (c_fg : ClassId) (w_wo : Nat → Int32) (w_lu : Nat → Int32) (w_fg : Nat → Int32) (ln : Int32) (bs : Int32) (tk : Int32) (lw : Int32) (li : Int32) (a1 : Int32) (a2 : Int32) (a3 : Int32) (sz : Nat) (b_ln : (0 : Int) ≤ ln.toInt ∧ ln.toInt ≤ 12) (b_bs : (0 : Int) ≤ bs.toInt ∧ bs.toInt ≤ 16) (b_tk : (0 : Int) ≤ tk.toInt ∧ tk.toInt ≤ 20000) (b_lw : (0 : Int) ≤ lw.toInt ∧ lw.toInt ≤ 9) (ha_mfg : rg w_fg 12 0 15) (hw0 : w_wo 0 = ln) (hw1 : w_wo 1 = bs) (hw2 : w_wo 2 = tk) (hw3 : w_wo 3 = lw) (hw4 : w_wo 4 = li) (hwz : (ln.toInt = 0 ∧ bs.toInt = 0 ∧ tk.toInt = 0 ∧ lw.toInt = 0) ∨ (1 ≤ ln.toInt ∧ 2 ≤ bs.toInt ∧ 1 ≤ tk.toInt)) : Met l yX10_at uX10_at ({ frames := 2, cells := 0, slots := 0, locals := 48 }) (va_Pc [.ref o0, .int a1, .int a2, .int a3] (hw (dC, dI) vwCl [(o0, .inr (8, [.int x_th, .ref mwo, .ref mim, .ref mhi, .ref mlu, .ref mtp, .int x_td, .ref mfv, .int x_sz, .int x_at, .int x_fr, .int x_to, .int x_va, .int x_fk, .int x_fp, .ref mfr, .ref mwt, .int x_wt, .int x_op, .int x_jo, .ref mfg, .ref mpl, .long x_dr, .ref mtm, .ref mfa, .ref mqu, .ref mmo, .ref mwy, .ref mwn, .ref mma, .ref mwi, .ref mnu, .ref mmv])), (mwo, .inl (c_wo, 1875, .inl w_wo)), (mlu, .inl (c_lu, 20000, .inl w_lu)), (mfg, .inl (c_fg, 12, .inl w_fg))] [(c_wo, .int), (c_lu, .int), (c_fg, .int)] sz)) (va_Qi (fun (r : Int32) (_ : Unit) => True) (fun (_ : Unit) t => ∃ (o0_ : Nat → Int32), (rg o0_ 12 0 15) ∧ va_P (dC, dI) vwCl [(o0, .inr (8, [.int x_th, .ref mwo, .ref mim, .ref mhi, .ref mlu, .ref mtp, .int x_td, .ref mfv, .int x_sz, .int x_at, .int x_fr, .int x_to, .int x_va, .int x_fk, .int x_fp, .ref mfr, .ref mwt, .int x_wt, .int x_op, .int x_jo, .ref mfg, .ref mpl, .long x_dr, .ref mtm, .ref mfa, .ref mqu, .ref mmo, .ref mwy, .ref mwn, .ref mma, .ref mwi, .ref mnu, .ref mmv])), (mwo, .inl (c_wo, 1875, .inl w_wo)), (mlu, .inl (c_lu, 20000, .inl w_lu)), (mfg, .inl (c_fg, 12, .inl o0_))] t.heap ∧ va_K (dC, dI) vwCl [(c_wo, .int), (c_lu, .int), (c_fg, .int)] t ∧ va_D (va_A [(o0, .inr (8, [.int x_th, .ref mwo, .ref mim, .ref mhi, .ref mlu, .ref mtp, .int x_td, .ref mfv, .int x_sz, .int x_at, .int x_fr, .int x_to, .int x_va, .int x_fk, .int x_fp, .ref mfr, .ref mwt, .int x_wt, .int x_op, .int x_jo, .ref mfg, .ref mpl, .long x_dr, .ref mtm, .ref mfa, .ref mqu, .ref mmo, .ref mwy, .ref mwn, .ref mma, .ref mwi, .ref mnu, .ref mmv])), (mwo, .inl (c_wo, 1875, .inl w_wo)), (mlu, .inl (c_lu, 20000, .inl w_lu)), (mfg, .inl (c_fg, 12, .inl w_fg))] sz) [(o0, .inr (8, [.int x_th, .ref mwo, .ref mim, .ref mhi, .ref mlu, .ref mtp, .int x_td, .ref mfv, .int x_sz, .int x_at, .int x_fr, .int x_to, .int x_va, .int x_fk, .int x_fp, .ref mfr, .ref mwt, .int x_wt, .int x_op, .int x_jo, .ref mfg, .ref mpl, .long x_dr, .ref mtm, .ref mfa, .ref mqu, .ref mmo, .ref mwy, .ref mwn, .ref mma, .ref mwi, .ref mnu, .ref mmv])), (mwo, .inl (c_wo, 1875, .inl w_wo)), (mlu, .inl (c_lu, 20000, .inl w_lu)), (mfg, .inl (c_fg, 12, .inl o0_))]) (va_A [(o0, .inr (8, [.int x_th, .ref mwo, .ref mim, .ref mhi, .ref mlu, .ref mtp, .int x_td, .ref mfv, .int x_sz, .int x_at, .int x_fr, .int x_to, .int x_va, .int x_fk, .int x_fp, .ref mfr, .ref mwt, .int x_wt, .int x_op, .int x_jo, .ref mfg, .ref mpl, .long x_dr, .ref mtm, .ref mfa, .ref mqu, .ref mmo, .ref mwy, .ref mwn, .ref mma, .ref mwi, .ref mnu, .ref mmv])), (mwo, .inl (c_wo, 1875, .inl w_wo)), (mlu, .inl (c_lu, 20000, .inl w_lu)), (mfg, .inl (c_fg, 12, .inl w_fg))] sz)) 0 0 (va_A [(o0, .inr (8, [.int x_th, .ref mwo, .ref mim, .ref mhi, .ref mlu, .ref mtp, .int x_td, .ref mfv, .int x_sz, .int x_at, .int x_fr, .int x_to, .int x_va, .int x_fk, .int x_fp, .ref mfr, .ref mwt, .int x_wt, .int x_op, .int x_jo, .ref mfg, .ref mpl, .long x_dr, .ref mtm, .ref mfa, .ref mqu, .ref mmo, .ref mwy, .ref mwn, .ref mma, .ref mwi, .ref mnu, .ref mmv])), (mwo, .inl (c_wo, 1875, .inl w_wo)), (mlu, .inl (c_lu, 20000, .inl w_lu)), (mfg, .inl (c_fg, 12, .inl w_fg))] sz) := by
  refine Met.ofW (cc := cX10_at) (maxL := 4) (ret := (some .int)) (by decide) rfl ?_
  intro p e s m args below meth c s₁ B hml hv
  obtain ⟨rfl, hsz, hP, hK, hD0, hN⟩ := hv
  have hx := B.exec
  have hb := B.bytes
  have hr := B.returns
  have hts := atoms_spec (ws := uX10_at) B.pre
  have hown : s.vm.findClass RX10 = some m.cls := findClass_of_methodNamed B.named
  have hlocks := B.notSynchronized
  subst hsz
  have hD := hD0.self (sz := s.heap.size)
  generalize hAe : va_A [(o0, .inr (8, [.int x_th, .ref mwo, .ref mim, .ref mhi, .ref mlu, .ref mtp, .int x_td, .ref mfv, .int x_sz, .int x_at, .int x_fr, .int x_to, .int x_va, .int x_fk, .int x_fp, .ref mfr, .ref mwt, .int x_wt, .int x_op, .int x_jo, .ref mfg, .ref mpl, .long x_dr, .ref mtm, .ref mfa, .ref mqu, .ref mmo, .ref mwy, .ref mwn, .ref mma, .ref mwi, .ref mnu, .ref mmv])), (mwo, .inl (c_wo, 1875, .inl w_wo)), (mlu, .inl (c_lu, 20000, .inl w_lu)), (mfg, .inl (c_fg, 12, .inl w_fg))] s.heap.size = A at hD ⊢
  have hA : ∀ q : Nat, s.heap.size ≤ q → A q := fun q h => by rw [← hAe]; exact Or.inr h
  have hS : va_S A s.heap s.heap [] := va_S.rf
  have hP : va_P (dC, dI) vwCl [(o0, .inr (8, [.int x_th, .ref mwo, .ref mim, .ref mhi, .ref mlu, .ref mtp, .int x_td, .ref mfv, .int x_sz, .int x_at, .int x_fr, .int x_to, .int x_va, .int x_fk, .int x_fp, .ref mfr, .ref mwt, .int x_wt, .int x_op, .int x_jo, .ref mfg, .ref mpl, .long x_dr, .ref mtm, .ref mfa, .ref mqu, .ref mmo, .ref mwy, .ref mwn, .ref mma, .ref mwi, .ref mnu, .ref mmv])), (mwo, .inl (c_wo, 1875, .inl w_wo)), (mlu, .inl (c_lu, 20000, .inl w_lu)), (mfg, .inl (c_fg, 12, .inl w_fg))] s.heap := hP
  have hl := lv_entry ([.ref o0, .int a1, .int a2, .int a3]) (n := 4) (Nat.le_of_ble_eq_true rfl)
  rw [lg_entry_eq]
  generalize (lg_sl ([.ref o0, .int a1, .int a2, .int a3]) ++ List.replicate (4 - (lg_sl ([.ref o0, .int a1, .int a2, .int a3])).length) Slot.unset).toArray = ls at hl ⊢
  have hl : lv_has ls 4 [(0, .ref o0), (1, .int a1), (2, .int a2), (3, .int a3)] := hl
  refine lv_aload_n hx hb dX10_at_0 rfl (lv_at hl 0 rfl) ?_
  refine lv_iload_n hx hb dX10_at_1 rfl (lv_at hl 1 rfl) ?_
  refine vp_callSi (W.runV (As := [.int a1]) (rest := []) ⟨hx, hb, hml, hown, hts⟩ (kX10_isLaw l dC dI o0 x_th mwo mim mhi mlu mtp x_td mfv x_sz x_at x_fr x_to x_va x_fk x_fp mfr mwt x_wt x_op x_jo mfg mpl x_dr mtm mfa mqu mmo mwy mwn mma mwi mnu mmv c_wo w_wo ln bs tk lw li a1 b_ln b_bs b_tk b_lw (hw0) (hw1) (hw2) (hw3) (hw4) (hwz)) (cwV 1 hts gX10_at__X10_isLaw_V89 rfl rfl rfl (by decide +kernel) ⟨lel 2 2 rfl, lel 46 48 rfl⟩) ⟨pw_fb, va_recv hK hP (ci := 8) (q0 := 0) rfl rfl, (pw_use hP hK hN [0, 1] rfl [0] rfl)⟩ rfl rfl hl.1 rfl (lv_room (Nat.le_of_ble_eq_true rfl)) dX10_at_2 ⟨lel 0 0 rfl, lel 0 0 rfl⟩) (fun r_18 h_r_18 => ?_)
  obtain ⟨b_r_18, nz_r_18⟩ := h_r_18
  have b_r_18 : (0 : Int) ≤ r_18.toInt ∧ r_18.toInt ≤ 1 := b_r_18
  refine lv_if_eq (tgt := 44) hx hb dX10_at_5 (by decide) (fun c_19 => ?_) (fun c_19 => ?_)
  ·
    have n_c_19 : (r_18.toInt : Int) = 0 := c_eq rfl (by decide) c_19
    have b_r_18 : (0 : Int) ≤ r_18.toInt ∧ r_18.toInt ≤ 0 := r_eq1 b_r_18 (by decide : (0 : Int) ≤ (0 : Int32).toInt ∧ (0 : Int32).toInt ≤ 0) n_c_19 (by decide)
    refine lv_bipush (v := (-2)) hx hb dX10_at_44 (by decide) ?_
    have hP9 := hP.sub (ws' := [(o0, .inr (8, [.int x_th, .ref mwo, .ref mim, .ref mhi, .ref mlu, .ref mtp, .int x_td, .ref mfv, .int x_sz, .int x_at, .int x_fr, .int x_to, .int x_va, .int x_fk, .int x_fp, .ref mfr, .ref mwt, .int x_wt, .int x_op, .int x_jo, .ref mfg, .ref mpl, .long x_dr, .ref mtm, .ref mfa, .ref mqu, .ref mmo, .ref mwy, .ref mwn, .ref mma, .ref mwi, .ref mnu, .ref mmv])), (mwo, .inl (c_wo, 1875, .inl w_wo)), (mlu, .inl (c_lu, 20000, .inl w_lu)), (mfg, .inl (c_fg, 12, .inl w_fg))]) [0, 1, 2, 3] rfl
    have hD9 := hD.sub (ws' := [(o0, .inr (8, [.int x_th, .ref mwo, .ref mim, .ref mhi, .ref mlu, .ref mtp, .int x_td, .ref mfv, .int x_sz, .int x_at, .int x_fr, .int x_to, .int x_va, .int x_fk, .int x_fp, .ref mfr, .ref mwt, .int x_wt, .int x_op, .int x_jo, .ref mfg, .ref mpl, .long x_dr, .ref mtm, .ref mfa, .ref mqu, .ref mmo, .ref mwy, .ref mwn, .ref mma, .ref mwi, .ref mnu, .ref mmv])), (mwo, .inl (c_wo, 1875, .inl w_wo)), (mlu, .inl (c_lu, 20000, .inl w_lu)), (mfg, .inl (c_fg, 12, .inl w_fg))]) [0, 1, 2, 3] (by decide) rfl
    have hK9 := hK.sub (tys' := [(c_wo, .int), (c_lu, .int), (c_fg, .int)]) [0, 1, 2] rfl
    exact W.iret (v := (-2)) hx hb hr (fun t ht hW => ⟨⟨(-2), (), rfl, trivial, w_fg, ha_mfg, by rw [ht]; exact hP9, va_K.moved hW.alike hK9, hD9⟩, hS.F ht⟩) hS.2.2 dX10_at_46
  ·
    have n_c_19 : (r_18.toInt : Int) ≠ 0 := c_ne rfl (by decide) c_19
    have b_r_18 : (1 : Int) ≤ r_18.toInt ∧ r_18.toInt ≤ 1 := r_ne1 b_r_18 (by decide : (0 : Int) ≤ (0 : Int32).toInt ∧ (0 : Int32).toInt ≤ 0) n_c_19 (by decide)
    obtain ⟨b_a1, g_20⟩ := nz_r_18 c_19
    refine lv_aload_n hx hb dX10_at_8 rfl (lv_at hl 0 rfl) ?_
    refine lv_iload_n hx hb dX10_at_9 rfl (lv_at hl 2 rfl) ?_
    refine vp_callSi (W.runV (As := [.int a2]) (rest := []) ⟨hx, hb, hml, hown, hts⟩ (kX10_isPlace l dC dI o0 x_th mwo mim mhi mlu mtp x_td mfv x_sz x_at x_fr x_to x_va x_fk x_fp mfr mwt x_wt x_op x_jo mfg mpl x_dr mtm mfa mqu mmo mwy mwn mma mwi mnu mmv c_wo w_wo ln bs tk lw li a2 b_ln b_bs b_tk b_lw (hw0) (hw1) (hw2) (hw3) (hw4) (hwz)) (cwV 1 hts gX10_at__X10_isPlace_V308 rfl rfl rfl (by decide +kernel) ⟨lel 2 2 rfl, lel 46 48 rfl⟩) ⟨pw_fb, va_recv hK hP (ci := 8) (q0 := 0) rfl rfl, (pw_use hP hK hN [0, 1] rfl [0] rfl)⟩ rfl rfl hl.1 rfl (lv_room (Nat.le_of_ble_eq_true rfl)) dX10_at_10 ⟨lel 0 0 rfl, lel 0 0 rfl⟩) (fun r_21 h_r_21 => ?_)
    obtain ⟨b_r_21, nz_r_21⟩ := h_r_21
    have b_r_21 : (0 : Int) ≤ r_21.toInt ∧ r_21.toInt ≤ 1 := b_r_21
    refine lv_if_eq (tgt := 44) hx hb dX10_at_13 (by decide) (fun c_22 => ?_) (fun c_22 => ?_)
    ·
      have n_c_22 : (r_21.toInt : Int) = 0 := c_eq rfl (by decide) c_22
      have b_r_21 : (0 : Int) ≤ r_21.toInt ∧ r_21.toInt ≤ 0 := r_eq1 b_r_21 (by decide : (0 : Int) ≤ (0 : Int32).toInt ∧ (0 : Int32).toInt ≤ 0) n_c_22 (by decide)
      refine lv_bipush (v := (-2)) hx hb dX10_at_44 (by decide) ?_
      have hP9 := hP.sub (ws' := [(o0, .inr (8, [.int x_th, .ref mwo, .ref mim, .ref mhi, .ref mlu, .ref mtp, .int x_td, .ref mfv, .int x_sz, .int x_at, .int x_fr, .int x_to, .int x_va, .int x_fk, .int x_fp, .ref mfr, .ref mwt, .int x_wt, .int x_op, .int x_jo, .ref mfg, .ref mpl, .long x_dr, .ref mtm, .ref mfa, .ref mqu, .ref mmo, .ref mwy, .ref mwn, .ref mma, .ref mwi, .ref mnu, .ref mmv])), (mwo, .inl (c_wo, 1875, .inl w_wo)), (mlu, .inl (c_lu, 20000, .inl w_lu)), (mfg, .inl (c_fg, 12, .inl w_fg))]) [0, 1, 2, 3] rfl
      have hD9 := hD.sub (ws' := [(o0, .inr (8, [.int x_th, .ref mwo, .ref mim, .ref mhi, .ref mlu, .ref mtp, .int x_td, .ref mfv, .int x_sz, .int x_at, .int x_fr, .int x_to, .int x_va, .int x_fk, .int x_fp, .ref mfr, .ref mwt, .int x_wt, .int x_op, .int x_jo, .ref mfg, .ref mpl, .long x_dr, .ref mtm, .ref mfa, .ref mqu, .ref mmo, .ref mwy, .ref mwn, .ref mma, .ref mwi, .ref mnu, .ref mmv])), (mwo, .inl (c_wo, 1875, .inl w_wo)), (mlu, .inl (c_lu, 20000, .inl w_lu)), (mfg, .inl (c_fg, 12, .inl w_fg))]) [0, 1, 2, 3] (by decide) rfl
      have hK9 := hK.sub (tys' := [(c_wo, .int), (c_lu, .int), (c_fg, .int)]) [0, 1, 2] rfl
      exact W.iret (v := (-2)) hx hb hr (fun t ht hW => ⟨⟨(-2), (), rfl, trivial, w_fg, ha_mfg, by rw [ht]; exact hP9, va_K.moved hW.alike hK9, hD9⟩, hS.F ht⟩) hS.2.2 dX10_at_46
    ·
      have n_c_22 : (r_21.toInt : Int) ≠ 0 := c_ne rfl (by decide) c_22
      have b_r_21 : (1 : Int) ≤ r_21.toInt ∧ r_21.toInt ≤ 1 := r_ne1 b_r_21 (by decide : (0 : Int) ≤ (0 : Int32).toInt ∧ (0 : Int32).toInt ≤ 0) n_c_22 (by decide)
      obtain ⟨b_a2, g_23⟩ := nz_r_21 c_22
      refine lv_iload_n hx hb dX10_at_16 rfl (lv_at hl 3 rfl) ?_
      obtain ⟨z_24, e_z_24⟩ : ∃ y : Int64, y = a3.toInt64 := ⟨_, rfl⟩
      refine lv_i2l (v := z_24) hx hb dX10_at_17 e_z_24.symm ?_
      obtain ⟨q_z_24, b_z_24⟩ := ti_i2l e_z_24 (ti_rng a3)
      refine lv_lconst (v := 0) hx hb dX10_at_18 (by decide) ?_
      refine lv_aload_n hx hb dX10_at_19 rfl (lv_at hl 0 rfl) ?_
      refine va_get (D := (dC, dI)) (ci := 8) (v := .ref mwo) (C := RX10) (T := TX10) (N := 33) hx hb hts iX10_at_X10 hown hK hP 0 rfl rfl 1 (by decide) (hts (.fieldLink RX10 9 "LuckyTicketModel" "world" "[I") (List.mem_of_getElem? (i := 6) rfl)) (fun _ h9 => h9) rfl dX10_at_20 ?_
      refine lv_iconst (v := 1) hx hb dX10_at_23 (by decide) ?_
      refine va_iald hx hb hK hP 1 0 rfl rfl (vp_in_b (by decide : (1 : Int) ≤ (1 : Int32).toInt ∧ (1 : Int32).toInt ≤ 1) (by decide) (by decide)) dX10_at_24 ?_
      refine lv_topi (fun z_25 e_z_25 => ?_)
      obtain rfl : z_25 = bs := e_z_25.trans hw1
      refine lv_iconst (v := 1) hx hb dX10_at_25 (by decide) ?_
      refine lv_isub hx hb dX10_at_26 ?_
      refine lv_topi (fun z_26 e_z_26 => ?_)
      obtain ⟨q_z_26, b_z_26⟩ := ti_sub (lo := -1) (hi := 15) e_z_26 rfl (by decide : (1 : Int32).toInt = 1) b_bs (by decide : (1 : Int) ≤ (1 : Int32).toInt ∧ (1 : Int32).toInt ≤ 1) (by decide)
      obtain ⟨z_27, e_z_27⟩ : ∃ y : Int64, y = z_26.toInt64 := ⟨_, rfl⟩
      refine lv_i2l (v := z_27) hx hb dX10_at_27 e_z_27.symm ?_
      obtain ⟨q_z_27, b_z_27⟩ := ti_i2l e_z_27 b_z_26
      refine vp_callSi (W.runS (As := [.long z_24, .long 0, .long z_27]) (rest := []) ⟨hx, hb, hml, hown, hts⟩ (kX10_in l dC dI z_24 0 z_27 ) (va_cwS 3 hts gX10_at__X10_in_S82 rfl rfl rfl (by decide +kernel) ⟨lel 1 2 rfl, lel 25 48 rfl⟩) ⟨pn_fb, pn_use⟩ rfl rfl hl.1 rfl (lv_room (Nat.le_of_ble_eq_true rfl)) dX10_at_28 ⟨lel 0 0 rfl, lel 0 0 rfl⟩) (fun r_28 h_r_28 => ?_)
      obtain ⟨b_r_28, nz_r_28⟩ := h_r_28
      have b_r_28 : (0 : Int) ≤ r_28.toInt ∧ r_28.toInt ≤ 1 := b_r_28
      refine lv_if_eq (tgt := 44) hx hb dX10_at_31 (by decide) (fun c_29 => ?_) (fun c_29 => ?_)
      ·
        have n_c_29 : (r_28.toInt : Int) = 0 := c_eq rfl (by decide) c_29
        have b_r_28 : (0 : Int) ≤ r_28.toInt ∧ r_28.toInt ≤ 0 := r_eq1 b_r_28 (by decide : (0 : Int) ≤ (0 : Int32).toInt ∧ (0 : Int32).toInt ≤ 0) n_c_29 (by decide)
        refine lv_bipush (v := (-2)) hx hb dX10_at_44 (by decide) ?_
        have hP9 := hP.sub (ws' := [(o0, .inr (8, [.int x_th, .ref mwo, .ref mim, .ref mhi, .ref mlu, .ref mtp, .int x_td, .ref mfv, .int x_sz, .int x_at, .int x_fr, .int x_to, .int x_va, .int x_fk, .int x_fp, .ref mfr, .ref mwt, .int x_wt, .int x_op, .int x_jo, .ref mfg, .ref mpl, .long x_dr, .ref mtm, .ref mfa, .ref mqu, .ref mmo, .ref mwy, .ref mwn, .ref mma, .ref mwi, .ref mnu, .ref mmv])), (mwo, .inl (c_wo, 1875, .inl w_wo)), (mlu, .inl (c_lu, 20000, .inl w_lu)), (mfg, .inl (c_fg, 12, .inl w_fg))]) [0, 1, 2, 3] rfl
        have hD9 := hD.sub (ws' := [(o0, .inr (8, [.int x_th, .ref mwo, .ref mim, .ref mhi, .ref mlu, .ref mtp, .int x_td, .ref mfv, .int x_sz, .int x_at, .int x_fr, .int x_to, .int x_va, .int x_fk, .int x_fp, .ref mfr, .ref mwt, .int x_wt, .int x_op, .int x_jo, .ref mfg, .ref mpl, .long x_dr, .ref mtm, .ref mfa, .ref mqu, .ref mmo, .ref mwy, .ref mwn, .ref mma, .ref mwi, .ref mnu, .ref mmv])), (mwo, .inl (c_wo, 1875, .inl w_wo)), (mlu, .inl (c_lu, 20000, .inl w_lu)), (mfg, .inl (c_fg, 12, .inl w_fg))]) [0, 1, 2, 3] (by decide) rfl
        have hK9 := hK.sub (tys' := [(c_wo, .int), (c_lu, .int), (c_fg, .int)]) [0, 1, 2] rfl
        exact W.iret (v := (-2)) hx hb hr (fun t ht hW => ⟨⟨(-2), (), rfl, trivial, w_fg, ha_mfg, by rw [ht]; exact hP9, va_K.moved hW.alike hK9, hD9⟩, hS.F ht⟩) hS.2.2 dX10_at_46
      ·
        have n_c_29 : (r_28.toInt : Int) ≠ 0 := c_ne rfl (by decide) c_29
        have b_r_28 : (1 : Int) ≤ r_28.toInt ∧ r_28.toInt ≤ 1 := r_ne1 b_r_28 (by decide : (0 : Int) ≤ (0 : Int32).toInt ∧ (0 : Int32).toInt ≤ 0) n_c_29 (by decide)
        have g_30 := nz_r_28 c_29
        have lt0_g_30 := (by decide : (0 : Int64).toInt = 0)
        have b_z_24 : (0 : Int) ≤ z_24.toInt ∧ z_24.toInt ≤ 15 := by
          have q0 := b_z_24
          have q1 := (by decide : (0 : Int) ≤ (0 : Int64).toInt ∧ (0 : Int64).toInt ≤ 0)
          have q2 := b_z_27
          omega
        have b_a3 : (0 : Int) ≤ a3.toInt ∧ a3.toInt ≤ 15 := by
          have q0 := b_z_24; have q1 := q_z_24; have q2 := (ti_rng a3); omega
        refine lv_aload_n hx hb dX10_at_34 rfl (lv_at hl 0 rfl) ?_
        refine lv_iload_n hx hb dX10_at_35 rfl (lv_at hl 1 rfl) ?_
        refine lv_iload_n hx hb dX10_at_36 rfl (lv_at hl 2 rfl) ?_
        refine lv_iload_n hx hb dX10_at_37 rfl (lv_at hl 3 rfl) ?_
        have hFc := va_free (wc := [(o0, .inr (8, [.int x_th, .ref mwo, .ref mim, .ref mhi, .ref mlu, .ref mtp, .int x_td, .ref mfv, .int x_sz, .int x_at, .int x_fr, .int x_to, .int x_va, .int x_fk, .int x_fp, .ref mfr, .ref mwt, .int x_wt, .int x_op, .int x_jo, .ref mfg, .ref mpl, .long x_dr, .ref mtm, .ref mfa, .ref mqu, .ref mmo, .ref mwy, .ref mwn, .ref mma, .ref mwi, .ref mnu, .ref mmv])), (mwo, .inl (c_wo, 1875, .inl w_wo)), (mlu, .inl (c_lu, 20000, .inl w_lu)), (mfg, .inl (c_fg, 12, .inl w_fg))]) hD hS hA [0, 1, 2, 3] rfl
        refine va_calli (va_runV (As := [.int a1, .int a2, .int a3]) (rest := []) ⟨hx, hb, hml, hown, hts⟩ (kX10_figuresAt l dC dI o0 x_th mwo mim mhi mlu mtp x_td mfv x_sz x_at x_fr x_to x_va x_fk x_fp mfr mwt x_wt x_op x_jo mfg mpl x_dr mtm mfa mqu mmo mwy mwn mma mwi mnu mmv c_wo c_lu c_fg w_wo w_lu w_fg ln bs tk lw li a1 a2 a3 (s.heap.size) b_ln b_bs b_tk b_lw b_a2 ha_mfg (hw0) (hw1) (hw2) (hw3) (hw4) (hwz)) (cwV 3 hts gX10_at__X10_figuresAt_V430 rfl rfl rfl (by decide +kernel) ⟨lel 2 2 rfl, lel 48 48 rfl⟩) ⟨hw_fb, va_recv hK hP (ci := 8) (q0 := 0) rfl rfl, (hw_use hP hD hK hN [0, 1, 2, 3] rfl (by decide) rfl [0, 1, 2] rfl)⟩ rfl rfl hl.1 rfl (lv_room (Nat.le_of_ble_eq_true rfl)) dX10_at_38 ⟨lel 0 0 rfl, lel 0 0 rfl⟩) hS (fun q _ h => hFc q h) hFc (fun r_31 u_32 t H1 locs ht hvm hw_r_31 hB hz1 hk1 hS => ?_)
        obtain ⟨o0_33, ha_34, hP1, hK1, hD1⟩ := hB
        rw [ht] at hP1
        have hK1 := va_K.moved hvm.symm hK1
        obtain ⟨hP, hD⟩ := va_join (wr := []) (w1 := [(o0, .inr (8, [.int x_th, .ref mwo, .ref mim, .ref mhi, .ref mlu, .ref mtp, .int x_td, .ref mfv, .int x_sz, .int x_at, .int x_fr, .int x_to, .int x_va, .int x_fk, .int x_fp, .ref mfr, .ref mwt, .int x_wt, .int x_op, .int x_jo, .ref mfg, .ref mpl, .long x_dr, .ref mtm, .ref mfa, .ref mqu, .ref mmo, .ref mwy, .ref mwn, .ref mma, .ref mwi, .ref mnu, .ref mmv])), (mwo, .inl (c_wo, 1875, .inl w_wo)), (mlu, .inl (c_lu, 20000, .inl w_lu)), (mfg, .inl (c_fg, 12, .inl o0_33))]) hP hD [0, 1, 2, 3] [] rfl rfl (by decide) (by decide) hk1 hFc hP1 hD1
        have hK := (hK.sub (tys' := []) [] rfl).app hK1
        generalize H1 = H at hP hS ⊢
        have hP : va_P (dC, dI) vwCl [(o0, .inr (8, [.int x_th, .ref mwo, .ref mim, .ref mhi, .ref mlu, .ref mtp, .int x_td, .ref mfv, .int x_sz, .int x_at, .int x_fr, .int x_to, .int x_va, .int x_fk, .int x_fp, .ref mfr, .ref mwt, .int x_wt, .int x_op, .int x_jo, .ref mfg, .ref mpl, .long x_dr, .ref mtm, .ref mfa, .ref mqu, .ref mmo, .ref mwy, .ref mwn, .ref mma, .ref mwi, .ref mnu, .ref mmv])), (mwo, .inl (c_wo, 1875, .inl w_wo)), (mlu, .inl (c_lu, 20000, .inl w_lu)), (mfg, .inl (c_fg, 12, .inl o0_33))] H := hP
        have hD : va_D A [(o0, .inr (8, [.int x_th, .ref mwo, .ref mim, .ref mhi, .ref mlu, .ref mtp, .int x_td, .ref mfv, .int x_sz, .int x_at, .int x_fr, .int x_to, .int x_va, .int x_fk, .int x_fp, .ref mfr, .ref mwt, .int x_wt, .int x_op, .int x_jo, .ref mfg, .ref mpl, .long x_dr, .ref mtm, .ref mfa, .ref mqu, .ref mmo, .ref mwy, .ref mwn, .ref mma, .ref mwi, .ref mnu, .ref mmv])), (mwo, .inl (c_wo, 1875, .inl w_wo)), (mlu, .inl (c_lu, 20000, .inl w_lu)), (mfg, .inl (c_fg, 12, .inl o0_33))] := hD
        have hK : va_K (dC, dI) vwCl [(c_wo, .int), (c_lu, .int), (c_fg, .int)] s := hK
        refine lv_goto (tgt := 46) hx hb dX10_at_41 (by decide) ?_
        have hP9 := hP.sub (ws' := [(o0, .inr (8, [.int x_th, .ref mwo, .ref mim, .ref mhi, .ref mlu, .ref mtp, .int x_td, .ref mfv, .int x_sz, .int x_at, .int x_fr, .int x_to, .int x_va, .int x_fk, .int x_fp, .ref mfr, .ref mwt, .int x_wt, .int x_op, .int x_jo, .ref mfg, .ref mpl, .long x_dr, .ref mtm, .ref mfa, .ref mqu, .ref mmo, .ref mwy, .ref mwn, .ref mma, .ref mwi, .ref mnu, .ref mmv])), (mwo, .inl (c_wo, 1875, .inl w_wo)), (mlu, .inl (c_lu, 20000, .inl w_lu)), (mfg, .inl (c_fg, 12, .inl o0_33))]) [0, 1, 2, 3] rfl
        have hD9 := hD.sub (ws' := [(o0, .inr (8, [.int x_th, .ref mwo, .ref mim, .ref mhi, .ref mlu, .ref mtp, .int x_td, .ref mfv, .int x_sz, .int x_at, .int x_fr, .int x_to, .int x_va, .int x_fk, .int x_fp, .ref mfr, .ref mwt, .int x_wt, .int x_op, .int x_jo, .ref mfg, .ref mpl, .long x_dr, .ref mtm, .ref mfa, .ref mqu, .ref mmo, .ref mwy, .ref mwn, .ref mma, .ref mwi, .ref mnu, .ref mmv])), (mwo, .inl (c_wo, 1875, .inl w_wo)), (mlu, .inl (c_lu, 20000, .inl w_lu)), (mfg, .inl (c_fg, 12, .inl o0_33))]) [0, 1, 2, 3] (by decide) rfl
        have hK9 := hK.sub (tys' := [(c_wo, .int), (c_lu, .int), (c_fg, .int)]) [0, 1, 2] rfl
        exact W.iret (v := r_31) hx hb hr (fun t ht hW => ⟨⟨r_31, (), rfl, trivial, o0_33, ha_34, by rw [ht]; exact hP9, va_K.moved hW.alike hK9, hD9⟩, hS.F ht⟩) hS.2.2 dX10_at_46
theorem dX10_mostly_0 : decode cX10_mostly 0 = .ok (.aload_n 0, 1) := by decide +kernel
theorem dX10_mostly_1 : decode cX10_mostly 1 = .ok (.iload_n 1, 1) := by decide +kernel
theorem dX10_mostly_2 : decode cX10_mostly 2 = .ok (.invokevirtual 89, 3) := by decide +kernel
theorem dX10_mostly_5 : decode cX10_mostly 5 = .ok (.ifCond .eq 11, 3) := by decide +kernel
theorem dX10_mostly_8 : decode cX10_mostly 8 = .ok (.aload_n 0, 1) := by decide +kernel
theorem dX10_mostly_9 : decode cX10_mostly 9 = .ok (.iload_n 2, 1) := by decide +kernel
theorem dX10_mostly_10 : decode cX10_mostly 10 = .ok (.invokevirtual 308, 3) := by decide +kernel
theorem dX10_mostly_13 : decode cX10_mostly 13 = .ok (.ifCond .ne 6, 3) := by decide +kernel
theorem dX10_mostly_16 : decode cX10_mostly 16 = .ok (.bipush (-2), 2) := by decide +kernel
theorem dX10_mostly_18 : decode cX10_mostly 18 = .ok (.ireturn, 1) := by decide +kernel
theorem dX10_mostly_19 : decode cX10_mostly 19 = .ok (.iconst (-1), 1) := by decide +kernel
theorem dX10_mostly_20 : decode cX10_mostly 20 = .ok (.istore_n 3, 1) := by decide +kernel
theorem dX10_mostly_21 : decode cX10_mostly 21 = .ok (.iconst 0, 1) := by decide +kernel
theorem dX10_mostly_22 : decode cX10_mostly 22 = .ok (.istore 4, 2) := by decide +kernel
theorem dX10_mostly_24 : decode cX10_mostly 24 = .ok (.iconst 0, 1) := by decide +kernel
theorem dX10_mostly_25 : decode cX10_mostly 25 = .ok (.istore 5, 2) := by decide +kernel
theorem dX10_mostly_27 : decode cX10_mostly 27 = .ok (.iload 5, 2) := by decide +kernel
theorem dX10_mostly_29 : decode cX10_mostly 29 = .ok (.aload_n 0, 1) := by decide +kernel
theorem dX10_mostly_30 : decode cX10_mostly 30 = .ok (.getfield 9, 3) := by decide +kernel
theorem dX10_mostly_33 : decode cX10_mostly 33 = .ok (.iconst 1, 1) := by decide +kernel
theorem dX10_mostly_34 : decode cX10_mostly 34 = .ok (.iaload, 1) := by decide +kernel
theorem dX10_mostly_35 : decode cX10_mostly 35 = .ok (.if_icmp .ge 36, 3) := by decide +kernel
theorem dX10_mostly_38 : decode cX10_mostly 38 = .ok (.aload_n 0, 1) := by decide +kernel
theorem dX10_mostly_39 : decode cX10_mostly 39 = .ok (.iload_n 1, 1) := by decide +kernel
theorem dX10_mostly_40 : decode cX10_mostly 40 = .ok (.iload_n 2, 1) := by decide +kernel
theorem dX10_mostly_41 : decode cX10_mostly 41 = .ok (.iload 5, 2) := by decide +kernel
theorem dX10_mostly_43 : decode cX10_mostly 43 = .ok (.invokevirtual 430, 3) := by decide +kernel
theorem dX10_mostly_46 : decode cX10_mostly 46 = .ok (.istore 6, 2) := by decide +kernel
theorem dX10_mostly_48 : decode cX10_mostly 48 = .ok (.iload 6, 2) := by decide +kernel
theorem dX10_mostly_50 : decode cX10_mostly 50 = .ok (.iload 4, 2) := by decide +kernel
theorem dX10_mostly_52 : decode cX10_mostly 52 = .ok (.if_icmp .gt 6, 3) := by decide +kernel
theorem dX10_mostly_55 : decode cX10_mostly 55 = .ok (.goto 10, 3) := by decide +kernel
theorem dX10_mostly_58 : decode cX10_mostly 58 = .ok (.iload 5, 2) := by decide +kernel
theorem dX10_mostly_60 : decode cX10_mostly 60 = .ok (.istore_n 3, 1) := by decide +kernel
theorem dX10_mostly_61 : decode cX10_mostly 61 = .ok (.iload 6, 2) := by decide +kernel
theorem dX10_mostly_63 : decode cX10_mostly 63 = .ok (.istore 4, 2) := by decide +kernel
theorem dX10_mostly_65 : decode cX10_mostly 65 = .ok (.iinc 5 1, 3) := by decide +kernel
theorem dX10_mostly_68 : decode cX10_mostly 68 = .ok (.goto (-41), 3) := by decide +kernel
theorem dX10_mostly_71 : decode cX10_mostly 71 = .ok (.iload_n 3, 1) := by decide +kernel
theorem dX10_mostly_72 : decode cX10_mostly 72 = .ok (.ireturn, 1) := by decide +kernel
def uX10_mostly : List Cond := .code yX10_mostly cX10_mostly 7 (some .int) :: ([.methodLink RX10 89 yX10_isLaw, .instanceMethod yX10_isLaw, .selects RX10 yX10_isLaw yX10_isLaw, .initialized RX10, .code yX10_isLaw cX10_isLaw 2 (some .boolean), .fieldLink RX10 9 "LuckyTicketModel" "world" "[I", .methodLink RX10 82 yX10_in, .static yX10_in, .code yX10_in cX10_in 6 (some .boolean), .methodLink RX10 308 yX10_isPlace, .instanceMethod yX10_isPlace, .selects RX10 yX10_isPlace yX10_isPlace, .code yX10_isPlace cX10_isPlace 2 (some .boolean), .methodLink RX10 430 yX10_figuresAt, .instanceMethod yX10_figuresAt, .selects RX10 yX10_figuresAt yX10_figuresAt, .code yX10_figuresAt cX10_figuresAt 6 (some .int), .methodLink RX10 316 yX10_isLucky, .instanceMethod yX10_isLucky, .selects RX10 yX10_isLucky yX10_isLucky, .code yX10_isLucky cX10_isLucky 3 (some .boolean), .fieldLink RX10 20 "LuckyTicketModel" "luck" "[I", .methodLink RX10 302 yX10_fillFigures, .instanceMethod yX10_fillFigures, .selects RX10 yX10_fillFigures yX10_fillFigures, .code yX10_fillFigures cX10_fillFigures 4 none, .fieldLink RX10 40 "LuckyTicketModel" "figures" "[I"] ++ wsX100)
theorem iX10_mostly_X10 : ∀ w ∈ wsX100, w ∈ uX10_mostly := fun _ h => List.mem_cons_of_mem _ (List.mem_append_right _ h)
set_option maxRecDepth 20000 in
theorem gX10_mostly__X10_isLaw_V89 : GoodIn uX10_mostly (wsV RX10 89 RX10 yX10_isLaw uX10_isLaw) := goodIn_p _ [5, 9] rfl (by decide +kernel)
set_option maxRecDepth 20000 in
theorem gX10_mostly__X10_isPlace_V308 : GoodIn uX10_mostly (wsV RX10 308 RX10 yX10_isPlace uX10_isPlace) := goodIn_p _ [13, 9] rfl (by decide +kernel)
set_option maxRecDepth 20000 in
theorem gX10_mostly__X10_figuresAt_V430 : GoodIn uX10_mostly (wsV RX10 430 RX10 yX10_figuresAt uX10_figuresAt) := goodIn_p _ [17, 21, 26] rfl (by decide +kernel)
set_option maxHeartbeats 4000000 in
set_option maxRecDepth 100000 in
theorem kX10_mostly (l : Launch) (dC : Nat → ClassId) (dI : Nat → Nat → Nat) (o0 : Nat) (x_th : Int32) (mwo : Nat) (mim : Nat) (mhi : Nat) (mlu : Nat) (mtp : Nat) (x_td : Int32) (mfv : Nat) (x_sz : Int32) (x_at : Int32) (x_fr : Int32) (x_to : Int32) (x_va : Int32) (x_fk : Int32) (x_fp : Int32) (mfr : Nat) (mwt : Nat) (x_wt : Int32) (x_op : Int32) (x_jo : Int32) (mfg : Nat) (mpl : Nat) (x_dr : Int64) (mtm : Nat) (mfa : Nat) (mqu : Nat) (mmo : Nat) (mwy : Nat) (mwn : Nat) (mma : Nat) (mwi : Nat) (mnu : Nat) (mmv : Nat) (c_wo : ClassId) (c_lu : ClassId) (c_fg : ClassId) (w_wo : Nat → Int32) (w_lu : Nat → Int32) (w_fg : Nat → Int32) (ln : Int32) (bs : Int32) (tk : Int32) (lw : Int32) (li : Int32) (a1 : Int32) (a2 : Int32) (sz : Nat) (b_ln : (0 : Int) ≤ ln.toInt ∧ ln.toInt ≤ 12) (b_bs : (0 : Int) ≤ bs.toInt ∧ bs.toInt ≤ 16) (b_tk : (0 : Int) ≤ tk.toInt ∧ tk.toInt ≤ 20000) (b_lw : (0 : Int) ≤ lw.toInt ∧ lw.toInt ≤ 9) (ha_mfg : rg w_fg 12 0 15) (hw0 : w_wo 0 = ln) (hw1 : w_wo 1 = bs) (hw2 : w_wo 2 = tk) (hw3 : w_wo 3 = lw) (hw4 : w_wo 4 = li) (hwz : (ln.toInt = 0 ∧ bs.toInt = 0 ∧ tk.toInt = 0 ∧ lw.toInt = 0) ∨ (1 ≤ ln.toInt ∧ 2 ≤ bs.toInt ∧ 1 ≤ tk.toInt)) : Met l yX10_mostly uX10_mostly ({ frames := 2, cells := 0, slots := 0, locals := 48 }) (va_Pc [.ref o0, .int a1, .int a2] (hw (dC, dI) vwCl [(o0, .inr (8, [.int x_th, .ref mwo, .ref mim, .ref mhi, .ref mlu, .ref mtp, .int x_td, .ref mfv, .int x_sz, .int x_at, .int x_fr, .int x_to, .int x_va, .int x_fk, .int x_fp, .ref mfr, .ref mwt, .int x_wt, .int x_op, .int x_jo, .ref mfg, .ref mpl, .long x_dr, .ref mtm, .ref mfa, .ref mqu, .ref mmo, .ref mwy, .ref mwn, .ref mma, .ref mwi, .ref mnu, .ref mmv])), (mwo, .inl (c_wo, 1875, .inl w_wo)), (mlu, .inl (c_lu, 20000, .inl w_lu)), (mfg, .inl (c_fg, 12, .inl w_fg))] [(c_wo, .int), (c_lu, .int), (c_fg, .int)] sz)) (va_Qi (fun (r : Int32) (_ : Unit) => ((-2 : Int) ≤ r.toInt ∧ r.toInt ≤ 16)) (fun (_ : Unit) t => ∃ (o0_ : Nat → Int32), (rg o0_ 12 0 15) ∧ va_P (dC, dI) vwCl [(o0, .inr (8, [.int x_th, .ref mwo, .ref mim, .ref mhi, .ref mlu, .ref mtp, .int x_td, .ref mfv, .int x_sz, .int x_at, .int x_fr, .int x_to, .int x_va, .int x_fk, .int x_fp, .ref mfr, .ref mwt, .int x_wt, .int x_op, .int x_jo, .ref mfg, .ref mpl, .long x_dr, .ref mtm, .ref mfa, .ref mqu, .ref mmo, .ref mwy, .ref mwn, .ref mma, .ref mwi, .ref mnu, .ref mmv])), (mwo, .inl (c_wo, 1875, .inl w_wo)), (mlu, .inl (c_lu, 20000, .inl w_lu)), (mfg, .inl (c_fg, 12, .inl o0_))] t.heap ∧ va_K (dC, dI) vwCl [(c_wo, .int), (c_lu, .int), (c_fg, .int)] t ∧ va_D (va_A [(o0, .inr (8, [.int x_th, .ref mwo, .ref mim, .ref mhi, .ref mlu, .ref mtp, .int x_td, .ref mfv, .int x_sz, .int x_at, .int x_fr, .int x_to, .int x_va, .int x_fk, .int x_fp, .ref mfr, .ref mwt, .int x_wt, .int x_op, .int x_jo, .ref mfg, .ref mpl, .long x_dr, .ref mtm, .ref mfa, .ref mqu, .ref mmo, .ref mwy, .ref mwn, .ref mma, .ref mwi, .ref mnu, .ref mmv])), (mwo, .inl (c_wo, 1875, .inl w_wo)), (mlu, .inl (c_lu, 20000, .inl w_lu)), (mfg, .inl (c_fg, 12, .inl w_fg))] sz) [(o0, .inr (8, [.int x_th, .ref mwo, .ref mim, .ref mhi, .ref mlu, .ref mtp, .int x_td, .ref mfv, .int x_sz, .int x_at, .int x_fr, .int x_to, .int x_va, .int x_fk, .int x_fp, .ref mfr, .ref mwt, .int x_wt, .int x_op, .int x_jo, .ref mfg, .ref mpl, .long x_dr, .ref mtm, .ref mfa, .ref mqu, .ref mmo, .ref mwy, .ref mwn, .ref mma, .ref mwi, .ref mnu, .ref mmv])), (mwo, .inl (c_wo, 1875, .inl w_wo)), (mlu, .inl (c_lu, 20000, .inl w_lu)), (mfg, .inl (c_fg, 12, .inl o0_))]) (va_A [(o0, .inr (8, [.int x_th, .ref mwo, .ref mim, .ref mhi, .ref mlu, .ref mtp, .int x_td, .ref mfv, .int x_sz, .int x_at, .int x_fr, .int x_to, .int x_va, .int x_fk, .int x_fp, .ref mfr, .ref mwt, .int x_wt, .int x_op, .int x_jo, .ref mfg, .ref mpl, .long x_dr, .ref mtm, .ref mfa, .ref mqu, .ref mmo, .ref mwy, .ref mwn, .ref mma, .ref mwi, .ref mnu, .ref mmv])), (mwo, .inl (c_wo, 1875, .inl w_wo)), (mlu, .inl (c_lu, 20000, .inl w_lu)), (mfg, .inl (c_fg, 12, .inl w_fg))] sz)) 0 0 (va_A [(o0, .inr (8, [.int x_th, .ref mwo, .ref mim, .ref mhi, .ref mlu, .ref mtp, .int x_td, .ref mfv, .int x_sz, .int x_at, .int x_fr, .int x_to, .int x_va, .int x_fk, .int x_fp, .ref mfr, .ref mwt, .int x_wt, .int x_op, .int x_jo, .ref mfg, .ref mpl, .long x_dr, .ref mtm, .ref mfa, .ref mqu, .ref mmo, .ref mwy, .ref mwn, .ref mma, .ref mwi, .ref mnu, .ref mmv])), (mwo, .inl (c_wo, 1875, .inl w_wo)), (mlu, .inl (c_lu, 20000, .inl w_lu)), (mfg, .inl (c_fg, 12, .inl w_fg))] sz) := by
  refine Met.ofW (cc := cX10_mostly) (maxL := 7) (ret := (some .int)) (by decide) rfl ?_
  intro p e s m args below meth c s₁ B hml hv
  obtain ⟨rfl, hsz, hP, hK, hD0, hN⟩ := hv
  have hx := B.exec
  have hb := B.bytes
  have hr := B.returns
  have hts := atoms_spec (ws := uX10_mostly) B.pre
  have hown : s.vm.findClass RX10 = some m.cls := findClass_of_methodNamed B.named
  have hlocks := B.notSynchronized
  subst hsz
  have hD := hD0.self (sz := s.heap.size)
  generalize hAe : va_A [(o0, .inr (8, [.int x_th, .ref mwo, .ref mim, .ref mhi, .ref mlu, .ref mtp, .int x_td, .ref mfv, .int x_sz, .int x_at, .int x_fr, .int x_to, .int x_va, .int x_fk, .int x_fp, .ref mfr, .ref mwt, .int x_wt, .int x_op, .int x_jo, .ref mfg, .ref mpl, .long x_dr, .ref mtm, .ref mfa, .ref mqu, .ref mmo, .ref mwy, .ref mwn, .ref mma, .ref mwi, .ref mnu, .ref mmv])), (mwo, .inl (c_wo, 1875, .inl w_wo)), (mlu, .inl (c_lu, 20000, .inl w_lu)), (mfg, .inl (c_fg, 12, .inl w_fg))] s.heap.size = A at hD ⊢
  have hA : ∀ q : Nat, s.heap.size ≤ q → A q := fun q h => by rw [← hAe]; exact Or.inr h
  have hS : va_S A s.heap s.heap [] := va_S.rf
  have hP : va_P (dC, dI) vwCl [(o0, .inr (8, [.int x_th, .ref mwo, .ref mim, .ref mhi, .ref mlu, .ref mtp, .int x_td, .ref mfv, .int x_sz, .int x_at, .int x_fr, .int x_to, .int x_va, .int x_fk, .int x_fp, .ref mfr, .ref mwt, .int x_wt, .int x_op, .int x_jo, .ref mfg, .ref mpl, .long x_dr, .ref mtm, .ref mfa, .ref mqu, .ref mmo, .ref mwy, .ref mwn, .ref mma, .ref mwi, .ref mnu, .ref mmv])), (mwo, .inl (c_wo, 1875, .inl w_wo)), (mlu, .inl (c_lu, 20000, .inl w_lu)), (mfg, .inl (c_fg, 12, .inl w_fg))] s.heap := hP
  have hl := lv_entry ([.ref o0, .int a1, .int a2]) (n := 7) (Nat.le_of_ble_eq_true rfl)
  rw [lg_entry_eq]
  generalize (lg_sl ([.ref o0, .int a1, .int a2]) ++ List.replicate (7 - (lg_sl ([.ref o0, .int a1, .int a2])).length) Slot.unset).toArray = ls at hl ⊢
  have hl : lv_has ls 7 [(0, .ref o0), (1, .int a1), (2, .int a2)] := hl
  refine lv_aload_n hx hb dX10_mostly_0 rfl (lv_at hl 0 rfl) ?_
  refine lv_iload_n hx hb dX10_mostly_1 rfl (lv_at hl 1 rfl) ?_
  refine vp_callSi (W.runV (As := [.int a1]) (rest := []) ⟨hx, hb, hml, hown, hts⟩ (kX10_isLaw l dC dI o0 x_th mwo mim mhi mlu mtp x_td mfv x_sz x_at x_fr x_to x_va x_fk x_fp mfr mwt x_wt x_op x_jo mfg mpl x_dr mtm mfa mqu mmo mwy mwn mma mwi mnu mmv c_wo w_wo ln bs tk lw li a1 b_ln b_bs b_tk b_lw (hw0) (hw1) (hw2) (hw3) (hw4) (hwz)) (cwV 1 hts gX10_mostly__X10_isLaw_V89 rfl rfl rfl (by decide +kernel) ⟨lel 2 2 rfl, lel 46 48 rfl⟩) ⟨pw_fb, va_recv hK hP (ci := 8) (q0 := 0) rfl rfl, (pw_use hP hK hN [0, 1] rfl [0] rfl)⟩ rfl rfl hl.1 rfl (lv_room (Nat.le_of_ble_eq_true rfl)) dX10_mostly_2 ⟨lel 0 0 rfl, lel 0 0 rfl⟩) (fun r_81 h_r_81 => ?_)
  obtain ⟨b_r_81, nz_r_81⟩ := h_r_81
  have b_r_81 : (0 : Int) ≤ r_81.toInt ∧ r_81.toInt ≤ 1 := b_r_81
  refine lv_if_eq (tgt := 16) hx hb dX10_mostly_5 (by decide) (fun c_82 => ?_) (fun c_82 => ?_)
  ·
    have n_c_82 : (r_81.toInt : Int) = 0 := c_eq rfl (by decide) c_82
    have b_r_81 : (0 : Int) ≤ r_81.toInt ∧ r_81.toInt ≤ 0 := r_eq1 b_r_81 (by decide : (0 : Int) ≤ (0 : Int32).toInt ∧ (0 : Int32).toInt ≤ 0) n_c_82 (by decide)
    refine lv_bipush (v := (-2)) hx hb dX10_mostly_16 (by decide) ?_
    have hP9 := hP.sub (ws' := [(o0, .inr (8, [.int x_th, .ref mwo, .ref mim, .ref mhi, .ref mlu, .ref mtp, .int x_td, .ref mfv, .int x_sz, .int x_at, .int x_fr, .int x_to, .int x_va, .int x_fk, .int x_fp, .ref mfr, .ref mwt, .int x_wt, .int x_op, .int x_jo, .ref mfg, .ref mpl, .long x_dr, .ref mtm, .ref mfa, .ref mqu, .ref mmo, .ref mwy, .ref mwn, .ref mma, .ref mwi, .ref mnu, .ref mmv])), (mwo, .inl (c_wo, 1875, .inl w_wo)), (mlu, .inl (c_lu, 20000, .inl w_lu)), (mfg, .inl (c_fg, 12, .inl w_fg))]) [0, 1, 2, 3] rfl
    have hD9 := hD.sub (ws' := [(o0, .inr (8, [.int x_th, .ref mwo, .ref mim, .ref mhi, .ref mlu, .ref mtp, .int x_td, .ref mfv, .int x_sz, .int x_at, .int x_fr, .int x_to, .int x_va, .int x_fk, .int x_fp, .ref mfr, .ref mwt, .int x_wt, .int x_op, .int x_jo, .ref mfg, .ref mpl, .long x_dr, .ref mtm, .ref mfa, .ref mqu, .ref mmo, .ref mwy, .ref mwn, .ref mma, .ref mwi, .ref mnu, .ref mmv])), (mwo, .inl (c_wo, 1875, .inl w_wo)), (mlu, .inl (c_lu, 20000, .inl w_lu)), (mfg, .inl (c_fg, 12, .inl w_fg))]) [0, 1, 2, 3] (by decide) rfl
    have hK9 := hK.sub (tys' := [(c_wo, .int), (c_lu, .int), (c_fg, .int)]) [0, 1, 2] rfl
    exact W.iret (v := (-2)) hx hb hr (fun t ht hW => ⟨⟨(-2), (), rfl, (rg_w (by decide : (-2 : Int) ≤ ((-2) : Int32).toInt ∧ ((-2) : Int32).toInt ≤ -2) (by decide) (by decide)), w_fg, ha_mfg, by rw [ht]; exact hP9, va_K.moved hW.alike hK9, hD9⟩, hS.F ht⟩) hS.2.2 dX10_mostly_18
  ·
    have n_c_82 : (r_81.toInt : Int) ≠ 0 := c_ne rfl (by decide) c_82
    have b_r_81 : (1 : Int) ≤ r_81.toInt ∧ r_81.toInt ≤ 1 := r_ne1 b_r_81 (by decide : (0 : Int) ≤ (0 : Int32).toInt ∧ (0 : Int32).toInt ≤ 0) n_c_82 (by decide)
    obtain ⟨b_a1, g_83⟩ := nz_r_81 c_82
    refine lv_aload_n hx hb dX10_mostly_8 rfl (lv_at hl 0 rfl) ?_
    refine lv_iload_n hx hb dX10_mostly_9 rfl (lv_at hl 2 rfl) ?_
    refine vp_callSi (W.runV (As := [.int a2]) (rest := []) ⟨hx, hb, hml, hown, hts⟩ (kX10_isPlace l dC dI o0 x_th mwo mim mhi mlu mtp x_td mfv x_sz x_at x_fr x_to x_va x_fk x_fp mfr mwt x_wt x_op x_jo mfg mpl x_dr mtm mfa mqu mmo mwy mwn mma mwi mnu mmv c_wo w_wo ln bs tk lw li a2 b_ln b_bs b_tk b_lw (hw0) (hw1) (hw2) (hw3) (hw4) (hwz)) (cwV 1 hts gX10_mostly__X10_isPlace_V308 rfl rfl rfl (by decide +kernel) ⟨lel 2 2 rfl, lel 46 48 rfl⟩) ⟨pw_fb, va_recv hK hP (ci := 8) (q0 := 0) rfl rfl, (pw_use hP hK hN [0, 1] rfl [0] rfl)⟩ rfl rfl hl.1 rfl (lv_room (Nat.le_of_ble_eq_true rfl)) dX10_mostly_10 ⟨lel 0 0 rfl, lel 0 0 rfl⟩) (fun r_84 h_r_84 => ?_)
    obtain ⟨b_r_84, nz_r_84⟩ := h_r_84
    have b_r_84 : (0 : Int) ≤ r_84.toInt ∧ r_84.toInt ≤ 1 := b_r_84
    refine lv_if_ne (tgt := 19) hx hb dX10_mostly_13 (by decide) (fun c_85 => ?_) (fun c_85 => ?_)
    ·
      have n_c_85 : (r_84.toInt : Int) ≠ 0 := c_ne rfl (by decide) c_85
      have b_r_84 : (1 : Int) ≤ r_84.toInt ∧ r_84.toInt ≤ 1 := r_ne1 b_r_84 (by decide : (0 : Int) ≤ (0 : Int32).toInt ∧ (0 : Int32).toInt ≤ 0) n_c_85 (by decide)
      obtain ⟨b_a2, g_86⟩ := nz_r_84 c_85
      refine lv_iconst (v := (-1)) hx hb dX10_mostly_19 (by decide) ?_
      refine lv_istore_n (lv' := [(3, .int (-1)), (0, .ref o0), (1, .int a1), (2, .int a2)]) hx hb dX10_mostly_20 rfl hl (by decide) rfl (fun ls hl => ?_)
      refine lv_iconst (v := 0) hx hb dX10_mostly_21 (by decide) ?_
      refine lv_istore (lv' := [(4, .int 0), (3, .int (-1)), (0, .ref o0), (1, .int a1), (2, .int a2)]) hx hb dX10_mostly_22 hl (by decide) rfl (fun ls hl => ?_)
      refine lv_iconst (v := 0) hx hb dX10_mostly_24 (by decide) ?_
      refine lv_istore (lv' := [(5, .int 0), (4, .int 0), (3, .int (-1)), (0, .ref o0), (1, .int a1), (2, .int a2)]) hx hb dX10_mostly_25 hl (by decide) rfl (fun ls hl => ?_)
      refine loopW (σ := Int32 × Int32 × Int32 × (Nat → Int32)) (fun v => (16 - v.1.toInt).toNat) (fun v H locs ls => ((0 : Int) ≤ v.1.toInt ∧ v.1.toInt ≤ 16) ∧ ((0 : Int) ≤ v.2.1.toInt ∧ v.2.1.toInt ≤ 2147483647) ∧ ((-1 : Int) ≤ v.2.2.1.toInt ∧ v.2.2.1.toInt ≤ 16) ∧ (rg v.2.2.2 12 0 15) ∧ va_P (dC, dI) vwCl [(o0, .inr (8, [.int x_th, .ref mwo, .ref mim, .ref mhi, .ref mlu, .ref mtp, .int x_td, .ref mfv, .int x_sz, .int x_at, .int x_fr, .int x_to, .int x_va, .int x_fk, .int x_fp, .ref mfr, .ref mwt, .int x_wt, .int x_op, .int x_jo, .ref mfg, .ref mpl, .long x_dr, .ref mtm, .ref mfa, .ref mqu, .ref mmo, .ref mwy, .ref mwn, .ref mma, .ref mwi, .ref mnu, .ref mmv])), (mwo, .inl (c_wo, 1875, .inl w_wo)), (mlu, .inl (c_lu, 20000, .inl w_lu)), (mfg, .inl (c_fg, 12, .inl v.2.2.2))] H ∧ va_D A [(o0, .inr (8, [.int x_th, .ref mwo, .ref mim, .ref mhi, .ref mlu, .ref mtp, .int x_td, .ref mfv, .int x_sz, .int x_at, .int x_fr, .int x_to, .int x_va, .int x_fk, .int x_fp, .ref mfr, .ref mwt, .int x_wt, .int x_op, .int x_jo, .ref mfg, .ref mpl, .long x_dr, .ref mtm, .ref mfa, .ref mqu, .ref mmo, .ref mwy, .ref mwn, .ref mma, .ref mwi, .ref mnu, .ref mmv])), (mwo, .inl (c_wo, 1875, .inl w_wo)), (mlu, .inl (c_lu, 20000, .inl w_lu)), (mfg, .inl (c_fg, 12, .inl v.2.2.2))] ∧ va_S A s.heap H locs ∧ lv_has ls 7 [(5, .int v.1), (4, .int v.2.1), (3, .int v.2.2.1), (0, .ref o0), (1, .int a1), (2, .int a2)]) (fun v H locs ls hI ih_27_150 => ?_) ((0 : Int32), (0 : Int32), (-1 : Int32), w_fg) ⟨(show (0 : Int) ≤ (0 : Int32).toInt ∧ (0 : Int32).toInt ≤ 16 from (rg_w (by decide : (0 : Int) ≤ (0 : Int32).toInt ∧ (0 : Int32).toInt ≤ 0) (by decide) (by decide))), (show (0 : Int) ≤ (0 : Int32).toInt ∧ (0 : Int32).toInt ≤ 2147483647 from (rg_w (by decide : (0 : Int) ≤ (0 : Int32).toInt ∧ (0 : Int32).toInt ≤ 0) (by decide) (by decide))), (show (-1 : Int) ≤ (-1 : Int32).toInt ∧ (-1 : Int32).toInt ≤ 16 from (rg_w (by decide : (-1 : Int) ≤ ((-1) : Int32).toInt ∧ ((-1) : Int32).toInt ≤ -1) (by decide) (by decide))), (show rg w_fg 12 0 15 from ha_mfg), hP, hD, hS, lv_sub hl [0, 1, 2, 3, 4, 5] rfl⟩
      obtain ⟨y_97, y_98, y_99, f_100⟩ := v
      obtain ⟨b_y_97, b_y_98, b_y_99, ha_f_100, hP, hD, hS, hl⟩ := hI
      have b_y_97 : (0 : Int) ≤ y_97.toInt ∧ y_97.toInt ≤ 16 := b_y_97
      have b_y_98 : (0 : Int) ≤ y_98.toInt ∧ y_98.toInt ≤ 2147483647 := b_y_98
      have b_y_99 : (-1 : Int) ≤ y_99.toInt ∧ y_99.toInt ≤ 16 := b_y_99
      have ha_f_100 : rg f_100 12 0 15 := ha_f_100
      have hP : va_P (dC, dI) vwCl [(o0, .inr (8, [.int x_th, .ref mwo, .ref mim, .ref mhi, .ref mlu, .ref mtp, .int x_td, .ref mfv, .int x_sz, .int x_at, .int x_fr, .int x_to, .int x_va, .int x_fk, .int x_fp, .ref mfr, .ref mwt, .int x_wt, .int x_op, .int x_jo, .ref mfg, .ref mpl, .long x_dr, .ref mtm, .ref mfa, .ref mqu, .ref mmo, .ref mwy, .ref mwn, .ref mma, .ref mwi, .ref mnu, .ref mmv])), (mwo, .inl (c_wo, 1875, .inl w_wo)), (mlu, .inl (c_lu, 20000, .inl w_lu)), (mfg, .inl (c_fg, 12, .inl f_100))] H := hP
      have hD : va_D A [(o0, .inr (8, [.int x_th, .ref mwo, .ref mim, .ref mhi, .ref mlu, .ref mtp, .int x_td, .ref mfv, .int x_sz, .int x_at, .int x_fr, .int x_to, .int x_va, .int x_fk, .int x_fp, .ref mfr, .ref mwt, .int x_wt, .int x_op, .int x_jo, .ref mfg, .ref mpl, .long x_dr, .ref mtm, .ref mfa, .ref mqu, .ref mmo, .ref mwy, .ref mwn, .ref mma, .ref mwi, .ref mnu, .ref mmv])), (mwo, .inl (c_wo, 1875, .inl w_wo)), (mlu, .inl (c_lu, 20000, .inl w_lu)), (mfg, .inl (c_fg, 12, .inl f_100))] := hD
      have hl : lv_has ls 7 [(5, .int y_97), (4, .int y_98), (3, .int y_99), (0, .ref o0), (1, .int a1), (2, .int a2)] := hl
      refine lv_iload hx hb dX10_mostly_27 (lv_at hl 0 rfl) ?_
      refine lv_aload_n hx hb dX10_mostly_29 rfl (lv_at hl 3 rfl) ?_
      refine va_get (D := (dC, dI)) (ci := 8) (v := .ref mwo) (C := RX10) (T := TX10) (N := 33) hx hb hts iX10_mostly_X10 hown hK hP 0 rfl rfl 1 (by decide) (hts (.fieldLink RX10 9 "LuckyTicketModel" "world" "[I") (List.mem_of_getElem? (i := 6) rfl)) (fun _ h9 => h9) rfl dX10_mostly_30 ?_
      refine lv_iconst (v := 1) hx hb dX10_mostly_33 (by decide) ?_
      refine va_iald hx hb hK hP 1 0 rfl rfl (vp_in_b (by decide : (1 : Int) ≤ (1 : Int32).toInt ∧ (1 : Int32).toInt ≤ 1) (by decide) (by decide)) dX10_mostly_34 ?_
      refine lv_topi (fun z_151 e_z_151 => ?_)
      obtain rfl : z_151 = bs := e_z_151.trans hw1
      refine lv_icmp_ge (tgt := 71) hx hb dX10_mostly_35 (by decide) (fun c_152 => ?_) (fun c_152 => ?_)
      ·
        have n_c_152 : (bs.toInt : Int) ≤ y_97.toInt := c_ge rfl rfl c_152
        refine lv_iload_n hx hb dX10_mostly_71 rfl (lv_at hl 2 rfl) ?_
        have hP9 := hP.sub (ws' := [(o0, .inr (8, [.int x_th, .ref mwo, .ref mim, .ref mhi, .ref mlu, .ref mtp, .int x_td, .ref mfv, .int x_sz, .int x_at, .int x_fr, .int x_to, .int x_va, .int x_fk, .int x_fp, .ref mfr, .ref mwt, .int x_wt, .int x_op, .int x_jo, .ref mfg, .ref mpl, .long x_dr, .ref mtm, .ref mfa, .ref mqu, .ref mmo, .ref mwy, .ref mwn, .ref mma, .ref mwi, .ref mnu, .ref mmv])), (mwo, .inl (c_wo, 1875, .inl w_wo)), (mlu, .inl (c_lu, 20000, .inl w_lu)), (mfg, .inl (c_fg, 12, .inl f_100))]) [0, 1, 2, 3] rfl
        have hD9 := hD.sub (ws' := [(o0, .inr (8, [.int x_th, .ref mwo, .ref mim, .ref mhi, .ref mlu, .ref mtp, .int x_td, .ref mfv, .int x_sz, .int x_at, .int x_fr, .int x_to, .int x_va, .int x_fk, .int x_fp, .ref mfr, .ref mwt, .int x_wt, .int x_op, .int x_jo, .ref mfg, .ref mpl, .long x_dr, .ref mtm, .ref mfa, .ref mqu, .ref mmo, .ref mwy, .ref mwn, .ref mma, .ref mwi, .ref mnu, .ref mmv])), (mwo, .inl (c_wo, 1875, .inl w_wo)), (mlu, .inl (c_lu, 20000, .inl w_lu)), (mfg, .inl (c_fg, 12, .inl f_100))]) [0, 1, 2, 3] (by decide) rfl
        have hK9 := hK.sub (tys' := [(c_wo, .int), (c_lu, .int), (c_fg, .int)]) [0, 1, 2] rfl
        exact W.iret (v := y_99) hx hb hr (fun t ht hW => ⟨⟨y_99, (), rfl, (rg_w b_y_99 (by decide) (by decide)), f_100, ha_f_100, by rw [ht]; exact hP9, va_K.moved hW.alike hK9, hD9⟩, hS.F ht⟩) hS.2.2 dX10_mostly_72
      ·
        have n_c_152 : (y_97.toInt : Int) < bs.toInt := c_nge rfl rfl c_152
        have b_y_97 : (0 : Int) ≤ y_97.toInt ∧ y_97.toInt ≤ 15 := r_lt1 b_y_97 b_bs n_c_152 (by decide)
        have b_bs : (1 : Int) ≤ bs.toInt ∧ bs.toInt ≤ 16 := r_lt2 b_y_97 b_bs n_c_152 (by decide)
        refine lv_aload_n hx hb dX10_mostly_38 rfl (lv_at hl 3 rfl) ?_
        refine lv_iload_n hx hb dX10_mostly_39 rfl (lv_at hl 4 rfl) ?_
        refine lv_iload_n hx hb dX10_mostly_40 rfl (lv_at hl 5 rfl) ?_
        refine lv_iload hx hb dX10_mostly_41 (lv_at hl 0 rfl) ?_
        have hFc := va_free (wc := [(o0, .inr (8, [.int x_th, .ref mwo, .ref mim, .ref mhi, .ref mlu, .ref mtp, .int x_td, .ref mfv, .int x_sz, .int x_at, .int x_fr, .int x_to, .int x_va, .int x_fk, .int x_fp, .ref mfr, .ref mwt, .int x_wt, .int x_op, .int x_jo, .ref mfg, .ref mpl, .long x_dr, .ref mtm, .ref mfa, .ref mqu, .ref mmo, .ref mwy, .ref mwn, .ref mma, .ref mwi, .ref mnu, .ref mmv])), (mwo, .inl (c_wo, 1875, .inl w_wo)), (mlu, .inl (c_lu, 20000, .inl w_lu)), (mfg, .inl (c_fg, 12, .inl f_100))]) hD hS hA [0, 1, 2, 3] rfl
        refine va_calli (va_runV (As := [.int a1, .int a2, .int y_97]) (rest := []) ⟨hx, hb, hml, hown, hts⟩ (kX10_figuresAt l dC dI o0 x_th mwo mim mhi mlu mtp x_td mfv x_sz x_at x_fr x_to x_va x_fk x_fp mfr mwt x_wt x_op x_jo mfg mpl x_dr mtm mfa mqu mmo mwy mwn mma mwi mnu mmv c_wo c_lu c_fg w_wo w_lu f_100 ln bs tk lw li a1 a2 y_97 (H.size) b_ln (rg_w b_bs (by decide) (by decide)) b_tk b_lw b_a2 ha_f_100 (hw0) (hw1) (hw2) (hw3) (hw4) (hwz)) (cwV 3 hts gX10_mostly__X10_figuresAt_V430 rfl rfl rfl (by decide +kernel) ⟨lel 2 2 rfl, lel 48 48 rfl⟩) ⟨hw_fb, va_recv hK hP (ci := 8) (q0 := 0) rfl rfl, (hw_use hP hD hK hN [0, 1, 2, 3] rfl (by decide) rfl [0, 1, 2] rfl)⟩ rfl rfl hl.1 rfl (lv_room (Nat.le_of_ble_eq_true rfl)) dX10_mostly_43 ⟨lel 0 0 rfl, lel 0 0 rfl⟩) hS (fun q _ h => hFc q h) hFc (fun r_153 u_154 t H1 locs ht hvm hw_r_153 hB hz1 hk1 hS => ?_)
        obtain ⟨o0_155, ha_156, hP1, hK1, hD1⟩ := hB
        rw [ht] at hP1
        have hK1 := va_K.moved hvm.symm hK1
        obtain ⟨hP, hD⟩ := va_join (wr := []) (w1 := [(o0, .inr (8, [.int x_th, .ref mwo, .ref mim, .ref mhi, .ref mlu, .ref mtp, .int x_td, .ref mfv, .int x_sz, .int x_at, .int x_fr, .int x_to, .int x_va, .int x_fk, .int x_fp, .ref mfr, .ref mwt, .int x_wt, .int x_op, .int x_jo, .ref mfg, .ref mpl, .long x_dr, .ref mtm, .ref mfa, .ref mqu, .ref mmo, .ref mwy, .ref mwn, .ref mma, .ref mwi, .ref mnu, .ref mmv])), (mwo, .inl (c_wo, 1875, .inl w_wo)), (mlu, .inl (c_lu, 20000, .inl w_lu)), (mfg, .inl (c_fg, 12, .inl o0_155))]) hP hD [0, 1, 2, 3] [] rfl rfl (by decide) (by decide) hk1 hFc hP1 hD1
        have hK := (hK.sub (tys' := []) [] rfl).app hK1
        generalize H1 = H at hP hS ⊢
        have hP : va_P (dC, dI) vwCl [(o0, .inr (8, [.int x_th, .ref mwo, .ref mim, .ref mhi, .ref mlu, .ref mtp, .int x_td, .ref mfv, .int x_sz, .int x_at, .int x_fr, .int x_to, .int x_va, .int x_fk, .int x_fp, .ref mfr, .ref mwt, .int x_wt, .int x_op, .int x_jo, .ref mfg, .ref mpl, .long x_dr, .ref mtm, .ref mfa, .ref mqu, .ref mmo, .ref mwy, .ref mwn, .ref mma, .ref mwi, .ref mnu, .ref mmv])), (mwo, .inl (c_wo, 1875, .inl w_wo)), (mlu, .inl (c_lu, 20000, .inl w_lu)), (mfg, .inl (c_fg, 12, .inl o0_155))] H := hP
        have hD : va_D A [(o0, .inr (8, [.int x_th, .ref mwo, .ref mim, .ref mhi, .ref mlu, .ref mtp, .int x_td, .ref mfv, .int x_sz, .int x_at, .int x_fr, .int x_to, .int x_va, .int x_fk, .int x_fp, .ref mfr, .ref mwt, .int x_wt, .int x_op, .int x_jo, .ref mfg, .ref mpl, .long x_dr, .ref mtm, .ref mfa, .ref mqu, .ref mmo, .ref mwy, .ref mwn, .ref mma, .ref mwi, .ref mnu, .ref mmv])), (mwo, .inl (c_wo, 1875, .inl w_wo)), (mlu, .inl (c_lu, 20000, .inl w_lu)), (mfg, .inl (c_fg, 12, .inl o0_155))] := hD
        have hK : va_K (dC, dI) vwCl [(c_wo, .int), (c_lu, .int), (c_fg, .int)] s := hK
        refine lv_istore (lv' := [(6, .int r_153), (5, .int y_97), (4, .int y_98), (3, .int y_99), (0, .ref o0), (1, .int a1), (2, .int a2)]) hx hb dX10_mostly_46 hl (by decide) rfl (fun ls hl => ?_)
        refine lv_iload hx hb dX10_mostly_48 (lv_at hl 0 rfl) ?_
        refine lv_iload hx hb dX10_mostly_50 (lv_at hl 2 rfl) ?_
        refine cutW (σ := Int32 × Int32) (pc2 := 65) (st2 := fun v => []) (cells2 := 0) (slots2 := 0) (fun v H locs ls => ((0 : Int) ≤ v.1.toInt ∧ v.1.toInt ≤ 2147483647) ∧ ((-1 : Int) ≤ v.2.toInt ∧ v.2.toInt ≤ 16) ∧ va_P (dC, dI) vwCl [(o0, .inr (8, [.int x_th, .ref mwo, .ref mim, .ref mhi, .ref mlu, .ref mtp, .int x_td, .ref mfv, .int x_sz, .int x_at, .int x_fr, .int x_to, .int x_va, .int x_fk, .int x_fp, .ref mfr, .ref mwt, .int x_wt, .int x_op, .int x_jo, .ref mfg, .ref mpl, .long x_dr, .ref mtm, .ref mfa, .ref mqu, .ref mmo, .ref mwy, .ref mwn, .ref mma, .ref mwi, .ref mnu, .ref mmv])), (mwo, .inl (c_wo, 1875, .inl w_wo)), (mlu, .inl (c_lu, 20000, .inl w_lu)), (mfg, .inl (c_fg, 12, .inl o0_155))] H ∧ va_D A [(o0, .inr (8, [.int x_th, .ref mwo, .ref mim, .ref mhi, .ref mlu, .ref mtp, .int x_td, .ref mfv, .int x_sz, .int x_at, .int x_fr, .int x_to, .int x_va, .int x_fk, .int x_fp, .ref mfr, .ref mwt, .int x_wt, .int x_op, .int x_jo, .ref mfg, .ref mpl, .long x_dr, .ref mtm, .ref mfa, .ref mqu, .ref mmo, .ref mwy, .ref mwn, .ref mma, .ref mwi, .ref mnu, .ref mmv])), (mwo, .inl (c_wo, 1875, .inl w_wo)), (mlu, .inl (c_lu, 20000, .inl w_lu)), (mfg, .inl (c_fg, 12, .inl o0_155))] ∧ va_S A s.heap H locs ∧ lv_has ls 7 [(4, .int v.1), (3, .int v.2), (6, .int r_153), (5, .int y_97), (0, .ref o0), (1, .int a1), (2, .int a2)]) (fun v H locs ls hI => ?_) (fun hj_65_159 => ?_)
        ·
          obtain ⟨y_158, y_159⟩ := v
          obtain ⟨b_y_158, b_y_159, hP, hD, hS, hl⟩ := hI
          have b_y_158 : (0 : Int) ≤ y_158.toInt ∧ y_158.toInt ≤ 2147483647 := b_y_158
          have b_y_159 : (-1 : Int) ≤ y_159.toInt ∧ y_159.toInt ≤ 16 := b_y_159
          have hP : va_P (dC, dI) vwCl [(o0, .inr (8, [.int x_th, .ref mwo, .ref mim, .ref mhi, .ref mlu, .ref mtp, .int x_td, .ref mfv, .int x_sz, .int x_at, .int x_fr, .int x_to, .int x_va, .int x_fk, .int x_fp, .ref mfr, .ref mwt, .int x_wt, .int x_op, .int x_jo, .ref mfg, .ref mpl, .long x_dr, .ref mtm, .ref mfa, .ref mqu, .ref mmo, .ref mwy, .ref mwn, .ref mma, .ref mwi, .ref mnu, .ref mmv])), (mwo, .inl (c_wo, 1875, .inl w_wo)), (mlu, .inl (c_lu, 20000, .inl w_lu)), (mfg, .inl (c_fg, 12, .inl o0_155))] H := hP
          have hD : va_D A [(o0, .inr (8, [.int x_th, .ref mwo, .ref mim, .ref mhi, .ref mlu, .ref mtp, .int x_td, .ref mfv, .int x_sz, .int x_at, .int x_fr, .int x_to, .int x_va, .int x_fk, .int x_fp, .ref mfr, .ref mwt, .int x_wt, .int x_op, .int x_jo, .ref mfg, .ref mpl, .long x_dr, .ref mtm, .ref mfa, .ref mqu, .ref mmo, .ref mwy, .ref mwn, .ref mma, .ref mwi, .ref mnu, .ref mmv])), (mwo, .inl (c_wo, 1875, .inl w_wo)), (mlu, .inl (c_lu, 20000, .inl w_lu)), (mfg, .inl (c_fg, 12, .inl o0_155))] := hD
          have hl : lv_has ls 7 [(4, .int y_158), (3, .int y_159), (6, .int r_153), (5, .int y_97), (0, .ref o0), (1, .int a1), (2, .int a2)] := hl
          obtain ⟨z_160, e_z_160⟩ : ∃ y : Int32, y = y_97 + 1 := ⟨_, rfl⟩
          refine lv_iinc (v := z_160) (lv' := [(5, .int z_160), (4, .int y_158), (3, .int y_159), (6, .int r_153), (0, .ref o0), (1, .int a1), (2, .int a2)]) hx hb dX10_mostly_65 hl (k := 3) rfl (by rw [e_z_160]; rfl) (by decide) rfl (fun ls hl => ?_)
          obtain ⟨q_z_160, b_z_160⟩ := ti_add (lo := 1) (hi := 16) e_z_160 rfl (by decide : (1 : Int32).toInt = 1) b_y_97 (by decide : (1 : Int) ≤ (1 : Int32).toInt ∧ (1 : Int32).toInt ≤ 1) (by decide)
          refine lv_goto (tgt := 27) hx hb dX10_mostly_68 (by decide) ?_
          exact ih_27_150 (z_160, y_158, y_159, o0_155) _ _ _ ⟨(show (0 : Int) ≤ z_160.toInt ∧ z_160.toInt ≤ 16 from (rg_w b_z_160 (by decide) (by decide))), (show (0 : Int) ≤ y_158.toInt ∧ y_158.toInt ≤ 2147483647 from b_y_158), (show (-1 : Int) ≤ y_159.toInt ∧ y_159.toInt ≤ 16 from b_y_159), (show rg o0_155 12 0 15 from ha_156), hP, hD, hS, lv_sub hl [0, 1, 2, 4, 5, 6] rfl⟩ (show (16 - z_160.toInt).toNat < (16 - y_97.toInt).toNat by omega)
        ·
          refine lv_icmp_gt (tgt := 58) hx hb dX10_mostly_52 (by decide) (fun c_157 => ?_) (fun c_157 => ?_)
          ·
            have n_c_157 : (y_98.toInt : Int) < r_153.toInt := c_gt rfl rfl c_157
            have b_y_98 : (0 : Int) ≤ y_98.toInt ∧ y_98.toInt ≤ 2147483646 := r_lt1 b_y_98 (ti_rng r_153) n_c_157 (by decide)
            have b_r_153 : (1 : Int) ≤ r_153.toInt ∧ r_153.toInt ≤ 2147483647 := r_lt2 b_y_98 (ti_rng r_153) n_c_157 (by decide)
            refine lv_iload hx hb dX10_mostly_58 (lv_at hl 1 rfl) ?_
            refine lv_istore_n (lv' := [(3, .int y_97), (6, .int r_153), (5, .int y_97), (4, .int y_98), (0, .ref o0), (1, .int a1), (2, .int a2)]) hx hb dX10_mostly_60 rfl hl (by decide) rfl (fun ls hl => ?_)
            refine lv_iload hx hb dX10_mostly_61 (lv_at hl 1 rfl) ?_
            refine lv_istore (lv' := [(4, .int r_153), (3, .int y_97), (6, .int r_153), (5, .int y_97), (0, .ref o0), (1, .int a1), (2, .int a2)]) hx hb dX10_mostly_63 hl (by decide) rfl (fun ls hl => ?_)
            exact hj_65_159 (r_153, y_97) _ _ _ ⟨(show (0 : Int) ≤ r_153.toInt ∧ r_153.toInt ≤ 2147483647 from (rg_w b_r_153 (by decide) (by decide))), (show (-1 : Int) ≤ y_97.toInt ∧ y_97.toInt ≤ 16 from (rg_w b_y_97 (by decide) (by decide))), hP, hD, hS, lv_sub hl [0, 1, 2, 3, 4, 5, 6] rfl⟩
          ·
            have n_c_157 : (r_153.toInt : Int) ≤ y_98.toInt := c_ngt rfl rfl c_157
            refine lv_goto (tgt := 65) hx hb dX10_mostly_55 (by decide) ?_
            exact hj_65_159 (y_98, y_99) _ _ _ ⟨(show (0 : Int) ≤ y_98.toInt ∧ y_98.toInt ≤ 2147483647 from b_y_98), (show (-1 : Int) ≤ y_99.toInt ∧ y_99.toInt ≤ 16 from b_y_99), hP, hD, hS, lv_sub hl [2, 3, 0, 1, 4, 5, 6] rfl⟩
    ·
      have n_c_85 : (r_84.toInt : Int) = 0 := c_eq rfl (by decide) c_85
      have b_r_84 : (0 : Int) ≤ r_84.toInt ∧ r_84.toInt ≤ 0 := r_eq1 b_r_84 (by decide : (0 : Int) ≤ (0 : Int32).toInt ∧ (0 : Int32).toInt ≤ 0) n_c_85 (by decide)
      refine lv_bipush (v := (-2)) hx hb dX10_mostly_16 (by decide) ?_
      have hP9 := hP.sub (ws' := [(o0, .inr (8, [.int x_th, .ref mwo, .ref mim, .ref mhi, .ref mlu, .ref mtp, .int x_td, .ref mfv, .int x_sz, .int x_at, .int x_fr, .int x_to, .int x_va, .int x_fk, .int x_fp, .ref mfr, .ref mwt, .int x_wt, .int x_op, .int x_jo, .ref mfg, .ref mpl, .long x_dr, .ref mtm, .ref mfa, .ref mqu, .ref mmo, .ref mwy, .ref mwn, .ref mma, .ref mwi, .ref mnu, .ref mmv])), (mwo, .inl (c_wo, 1875, .inl w_wo)), (mlu, .inl (c_lu, 20000, .inl w_lu)), (mfg, .inl (c_fg, 12, .inl w_fg))]) [0, 1, 2, 3] rfl
      have hD9 := hD.sub (ws' := [(o0, .inr (8, [.int x_th, .ref mwo, .ref mim, .ref mhi, .ref mlu, .ref mtp, .int x_td, .ref mfv, .int x_sz, .int x_at, .int x_fr, .int x_to, .int x_va, .int x_fk, .int x_fp, .ref mfr, .ref mwt, .int x_wt, .int x_op, .int x_jo, .ref mfg, .ref mpl, .long x_dr, .ref mtm, .ref mfa, .ref mqu, .ref mmo, .ref mwy, .ref mwn, .ref mma, .ref mwi, .ref mnu, .ref mmv])), (mwo, .inl (c_wo, 1875, .inl w_wo)), (mlu, .inl (c_lu, 20000, .inl w_lu)), (mfg, .inl (c_fg, 12, .inl w_fg))]) [0, 1, 2, 3] (by decide) rfl
      have hK9 := hK.sub (tys' := [(c_wo, .int), (c_lu, .int), (c_fg, .int)]) [0, 1, 2] rfl
      exact W.iret (v := (-2)) hx hb hr (fun t ht hW => ⟨⟨(-2), (), rfl, (rg_w (by decide : (-2 : Int) ≤ ((-2) : Int32).toInt ∧ ((-2) : Int32).toInt ≤ -2) (by decide) (by decide)), w_fg, ha_mfg, by rw [ht]; exact hP9, va_K.moved hW.alike hK9, hD9⟩, hS.F ht⟩) hS.2.2 dX10_mostly_18
theorem dX10_isSame_0 : decode cX10_isSame 0 = .ok (.iconst 0, 1) := by decide +kernel
theorem dX10_isSame_1 : decode cX10_isSame 1 = .ok (.istore_n 1, 1) := by decide +kernel
theorem dX10_isSame_2 : decode cX10_isSame 2 = .ok (.iload_n 1, 1) := by decide +kernel
theorem dX10_isSame_3 : decode cX10_isSame 3 = .ok (.bipush 16, 2) := by decide +kernel
theorem dX10_isSame_5 : decode cX10_isSame 5 = .ok (.if_icmp .ge 59, 3) := by decide +kernel
theorem dX10_isSame_8 : decode cX10_isSame 8 = .ok (.iconst 0, 1) := by decide +kernel
theorem dX10_isSame_9 : decode cX10_isSame 9 = .ok (.istore_n 2, 1) := by decide +kernel
theorem dX10_isSame_10 : decode cX10_isSame 10 = .ok (.iconst 0, 1) := by decide +kernel
theorem dX10_isSame_11 : decode cX10_isSame 11 = .ok (.istore_n 3, 1) := by decide +kernel
theorem dX10_isSame_12 : decode cX10_isSame 12 = .ok (.iload_n 3, 1) := by decide +kernel
theorem dX10_isSame_13 : decode cX10_isSame 13 = .ok (.aload_n 0, 1) := by decide +kernel
theorem dX10_isSame_14 : decode cX10_isSame 14 = .ok (.getfield 9, 3) := by decide +kernel
theorem dX10_isSame_17 : decode cX10_isSame 17 = .ok (.iconst 0, 1) := by decide +kernel
theorem dX10_isSame_18 : decode cX10_isSame 18 = .ok (.iaload, 1) := by decide +kernel
theorem dX10_isSame_19 : decode cX10_isSame 19 = .ok (.if_icmp .ge 27, 3) := by decide +kernel
theorem dX10_isSame_22 : decode cX10_isSame 22 = .ok (.iload_n 2, 1) := by decide +kernel
theorem dX10_isSame_23 : decode cX10_isSame 23 = .ok (.aload_n 0, 1) := by decide +kernel
theorem dX10_isSame_24 : decode cX10_isSame 24 = .ok (.getfield 40, 3) := by decide +kernel
theorem dX10_isSame_27 : decode cX10_isSame 27 = .ok (.iload_n 3, 1) := by decide +kernel
theorem dX10_isSame_28 : decode cX10_isSame 28 = .ok (.iaload, 1) := by decide +kernel
theorem dX10_isSame_29 : decode cX10_isSame 29 = .ok (.iload_n 1, 1) := by decide +kernel
theorem dX10_isSame_30 : decode cX10_isSame 30 = .ok (.if_icmp .ne 7, 3) := by decide +kernel
theorem dX10_isSame_33 : decode cX10_isSame 33 = .ok (.iconst 1, 1) := by decide +kernel
theorem dX10_isSame_34 : decode cX10_isSame 34 = .ok (.goto 4, 3) := by decide +kernel
theorem dX10_isSame_37 : decode cX10_isSame 37 = .ok (.iconst 0, 1) := by decide +kernel
theorem dX10_isSame_38 : decode cX10_isSame 38 = .ok (.iadd, 1) := by decide +kernel
theorem dX10_isSame_39 : decode cX10_isSame 39 = .ok (.istore_n 2, 1) := by decide +kernel
theorem dX10_isSame_40 : decode cX10_isSame 40 = .ok (.iinc 3 1, 3) := by decide +kernel
theorem dX10_isSame_43 : decode cX10_isSame 43 = .ok (.goto (-31), 3) := by decide +kernel
theorem dX10_isSame_46 : decode cX10_isSame 46 = .ok (.iload_n 2, 1) := by decide +kernel
theorem dX10_isSame_47 : decode cX10_isSame 47 = .ok (.aload_n 0, 1) := by decide +kernel
theorem dX10_isSame_48 : decode cX10_isSame 48 = .ok (.getfield 46, 3) := by decide +kernel
theorem dX10_isSame_51 : decode cX10_isSame 51 = .ok (.iload_n 1, 1) := by decide +kernel
theorem dX10_isSame_52 : decode cX10_isSame 52 = .ok (.iaload, 1) := by decide +kernel
theorem dX10_isSame_53 : decode cX10_isSame 53 = .ok (.if_icmp .eq 5, 3) := by decide +kernel
theorem dX10_isSame_56 : decode cX10_isSame 56 = .ok (.iconst 0, 1) := by decide +kernel
theorem dX10_isSame_57 : decode cX10_isSame 57 = .ok (.ireturn, 1) := by decide +kernel
theorem dX10_isSame_58 : decode cX10_isSame 58 = .ok (.iinc 1 1, 3) := by decide +kernel
theorem dX10_isSame_61 : decode cX10_isSame 61 = .ok (.goto (-59), 3) := by decide +kernel
theorem dX10_isSame_64 : decode cX10_isSame 64 = .ok (.iconst 1, 1) := by decide +kernel
theorem dX10_isSame_65 : decode cX10_isSame 65 = .ok (.ireturn, 1) := by decide +kernel
def uX10_isSame : List Cond := .code yX10_isSame cX10_isSame 4 (some .boolean) :: ([.fieldLink RX10 9 "LuckyTicketModel" "world" "[I", .fieldLink RX10 40 "LuckyTicketModel" "figures" "[I", .fieldLink RX10 46 "LuckyTicketModel" "times" "[I"] ++ wsX100)
theorem iX10_isSame_X10 : ∀ w ∈ wsX100, w ∈ uX10_isSame := fun _ h => List.mem_cons_of_mem _ (List.mem_append_right _ h)
set_option maxHeartbeats 4000000 in
set_option maxRecDepth 100000 in
theorem kX10_isSame (l : Launch) (dC : Nat → ClassId) (dI : Nat → Nat → Nat) (o0 : Nat) (x_th : Int32) (mwo : Nat) (mim : Nat) (mhi : Nat) (mlu : Nat) (mtp : Nat) (x_td : Int32) (mfv : Nat) (x_sz : Int32) (x_at : Int32) (x_fr : Int32) (x_to : Int32) (x_va : Int32) (x_fk : Int32) (x_fp : Int32) (mfr : Nat) (mwt : Nat) (x_wt : Int32) (x_op : Int32) (x_jo : Int32) (mfg : Nat) (mpl : Nat) (x_dr : Int64) (mtm : Nat) (mfa : Nat) (mqu : Nat) (mmo : Nat) (mwy : Nat) (mwn : Nat) (mma : Nat) (mwi : Nat) (mnu : Nat) (mmv : Nat) (c_wo : ClassId) (c_fg : ClassId) (c_tm : ClassId) (w_wo : Nat → Int32) (w_fg : Nat → Int32) (w_tm : Nat → Int32) (ln : Int32) (bs : Int32) (tk : Int32) (lw : Int32) (li : Int32) (b_ln : (0 : Int) ≤ ln.toInt ∧ ln.toInt ≤ 12) (b_bs : (0 : Int) ≤ bs.toInt ∧ bs.toInt ≤ 16) (b_tk : (0 : Int) ≤ tk.toInt ∧ tk.toInt ≤ 20000) (b_lw : (0 : Int) ≤ lw.toInt ∧ lw.toInt ≤ 9) (ha_mfg : rg w_fg 12 0 15) (hw0 : w_wo 0 = ln) (hw1 : w_wo 1 = bs) (hw2 : w_wo 2 = tk) (hw3 : w_wo 3 = lw) (hw4 : w_wo 4 = li) (hwz : (ln.toInt = 0 ∧ bs.toInt = 0 ∧ tk.toInt = 0 ∧ lw.toInt = 0) ∨ (1 ≤ ln.toInt ∧ 2 ≤ bs.toInt ∧ 1 ≤ tk.toInt)) : Met l yX10_isSame uX10_isSame ({ frames := 0, cells := 0, slots := 0, locals := 0 }) (va_Pc [.ref o0] (pw (dC, dI) vwCl [(o0, .inr (8, [.int x_th, .ref mwo, .ref mim, .ref mhi, .ref mlu, .ref mtp, .int x_td, .ref mfv, .int x_sz, .int x_at, .int x_fr, .int x_to, .int x_va, .int x_fk, .int x_fp, .ref mfr, .ref mwt, .int x_wt, .int x_op, .int x_jo, .ref mfg, .ref mpl, .long x_dr, .ref mtm, .ref mfa, .ref mqu, .ref mmo, .ref mwy, .ref mwn, .ref mma, .ref mwi, .ref mnu, .ref mmv])), (mwo, .inl (c_wo, 1875, .inl w_wo)), (mfg, .inl (c_fg, 12, .inl w_fg)), (mtm, .inl (c_tm, 16, .inl w_tm))] [(c_wo, .int), (c_fg, .int), (c_tm, .int)])) (vp_Si (fun r => ((0 : Int) ≤ r.toInt ∧ r.toInt ≤ 1))) 0 0 (fun _ => False) := by
  refine Met.ofW (cc := cX10_isSame) (maxL := 4) (ret := (some .boolean)) (by decide) rfl ?_
  intro p e s m args below meth c s₁ B hml hv
  obtain ⟨rfl, hP, hK, hN⟩ := hv
  have hx := B.exec
  have hb := B.bytes
  have hr := B.returns
  have hts := atoms_spec (ws := uX10_isSame) B.pre
  have hown : s.vm.findClass RX10 = some m.cls := findClass_of_methodNamed B.named
  have hlocks := B.notSynchronized
  have hl := lv_entry ([.ref o0]) (n := 4) (Nat.le_of_ble_eq_true rfl)
  rw [lg_entry_eq]
  generalize (lg_sl ([.ref o0]) ++ List.replicate (4 - (lg_sl ([.ref o0])).length) Slot.unset).toArray = ls at hl ⊢
  have hl : lv_has ls 4 [(0, .ref o0)] := hl
  refine lv_iconst (v := 0) hx hb dX10_isSame_0 (by decide) ?_
  refine lv_istore_n (lv' := [(1, .int 0), (0, .ref o0)]) hx hb dX10_isSame_1 rfl hl (by decide) rfl (fun ls hl => ?_)
  refine loopP (σ := Int32) (fun v => (16 - v.toInt).toNat) (fun v ls => ((0 : Int) ≤ v.toInt ∧ v.toInt ≤ 16) ∧ lv_has ls 4 [(1, .int v), (0, .ref o0)]) (fun v ls hI ih_2_2840 => ?_) (0 : Int32) ⟨(show (0 : Int) ≤ (0 : Int32).toInt ∧ (0 : Int32).toInt ≤ 16 from (rg_w (by decide : (0 : Int) ≤ (0 : Int32).toInt ∧ (0 : Int32).toInt ≤ 0) (by decide) (by decide))), lv_sub hl [0, 1] rfl⟩
  obtain ⟨y_1808, rfl⟩ : ∃ z, z = v := ⟨_, rfl⟩
  obtain ⟨b_y_1808, hl⟩ := hI
  have b_y_1808 : (0 : Int) ≤ y_1808.toInt ∧ y_1808.toInt ≤ 16 := b_y_1808
  have hl : lv_has ls 4 [(1, .int y_1808), (0, .ref o0)] := hl
  refine lv_iload_n hx hb dX10_isSame_2 rfl (lv_at hl 0 rfl) ?_
  refine lv_bipush (v := 16) hx hb dX10_isSame_3 (by decide) ?_
  refine lv_icmp_ge (tgt := 64) hx hb dX10_isSame_5 (by decide) (fun c_2841 => ?_) (fun c_2841 => ?_)
  ·
    have n_c_2841 : (16 : Int) ≤ y_1808.toInt := c_ge rfl (by decide) c_2841
    have b_y_1808 : (16 : Int) ≤ y_1808.toInt ∧ y_1808.toInt ≤ 16 := r_le2 (by decide : (16 : Int) ≤ (16 : Int32).toInt ∧ (16 : Int32).toInt ≤ 16) b_y_1808 n_c_2841 (by decide)
    refine lv_iconst (v := 1) hx hb dX10_isSame_64 (by decide) ?_
    exact W.zret (v := 1) hx hb hr rfl (fun t ht hW => ⟨1, rfl, (rg_w (by decide : (1 : Int) ≤ (1 : Int32).toInt ∧ (1 : Int32).toInt ≤ 1) (by decide) (by decide)), ht⟩) t_nil dX10_isSame_65
  ·
    have n_c_2841 : (y_1808.toInt : Int) < 16 := c_nge rfl (by decide) c_2841
    have b_y_1808 : (0 : Int) ≤ y_1808.toInt ∧ y_1808.toInt ≤ 15 := r_lt1 b_y_1808 (by decide : (16 : Int) ≤ (16 : Int32).toInt ∧ (16 : Int32).toInt ≤ 16) n_c_2841 (by decide)
    refine lv_iconst (v := 0) hx hb dX10_isSame_8 (by decide) ?_
    refine lv_istore_n (lv' := [(2, .int 0), (1, .int y_1808), (0, .ref o0)]) hx hb dX10_isSame_9 rfl hl (by decide) rfl (fun ls hl => ?_)
    refine lv_iconst (v := 0) hx hb dX10_isSame_10 (by decide) ?_
    refine lv_istore_n (lv' := [(3, .int 0), (2, .int 0), (1, .int y_1808), (0, .ref o0)]) hx hb dX10_isSame_11 rfl hl (by decide) rfl (fun ls hl => ?_)
    refine loopP (σ := Int32 × Int32) (fun v => (12 - v.1.toInt).toNat) (fun v ls => ((0 : Int) ≤ v.1.toInt ∧ v.1.toInt ≤ 12) ∧ lv_has ls 4 [(3, .int v.1), (2, .int v.2), (1, .int y_1808), (0, .ref o0)]) (fun v ls hI ih_12_3083 => ?_) ((0 : Int32), (0 : Int32)) ⟨(show (0 : Int) ≤ (0 : Int32).toInt ∧ (0 : Int32).toInt ≤ 12 from (rg_w (by decide : (0 : Int) ≤ (0 : Int32).toInt ∧ (0 : Int32).toInt ≤ 0) (by decide) (by decide))), lv_sub hl [0, 1, 2, 3] rfl⟩
    obtain ⟨y_2857, y_2858⟩ := v
    obtain ⟨b_y_2857, hl⟩ := hI
    have b_y_2857 : (0 : Int) ≤ y_2857.toInt ∧ y_2857.toInt ≤ 12 := b_y_2857
    have hl : lv_has ls 4 [(3, .int y_2857), (2, .int y_2858), (1, .int y_1808), (0, .ref o0)] := hl
    refine lv_iload_n hx hb dX10_isSame_12 rfl (lv_at hl 0 rfl) ?_
    refine lv_aload_n hx hb dX10_isSame_13 rfl (lv_at hl 3 rfl) ?_
    refine va_get (D := (dC, dI)) (ci := 8) (v := .ref mwo) (C := RX10) (T := TX10) (N := 33) hx hb hts iX10_isSame_X10 hown hK hP 0 rfl rfl 1 (by decide) (hts (.fieldLink RX10 9 "LuckyTicketModel" "world" "[I") (List.mem_of_getElem? (i := 1) rfl)) (fun _ h9 => h9) rfl dX10_isSame_14 ?_
    refine lv_iconst (v := 0) hx hb dX10_isSame_17 (by decide) ?_
    refine va_iald hx hb hK hP 1 0 rfl rfl (vp_in_b (by decide : (0 : Int) ≤ (0 : Int32).toInt ∧ (0 : Int32).toInt ≤ 0) (by decide) (by decide)) dX10_isSame_18 ?_
    refine lv_topi (fun z_3084 e_z_3084 => ?_)
    obtain rfl : z_3084 = ln := e_z_3084.trans hw0
    refine lv_icmp_ge (tgt := 46) hx hb dX10_isSame_19 (by decide) (fun c_3085 => ?_) (fun c_3085 => ?_)
    ·
      have n_c_3085 : (ln.toInt : Int) ≤ y_2857.toInt := c_ge rfl rfl c_3085
      refine lv_iload_n hx hb dX10_isSame_46 rfl (lv_at hl 1 rfl) ?_
      refine lv_aload_n hx hb dX10_isSame_47 rfl (lv_at hl 3 rfl) ?_
      refine va_get (D := (dC, dI)) (ci := 8) (v := .ref mtm) (C := RX10) (T := TX10) (N := 33) hx hb hts iX10_isSame_X10 hown hK hP 0 rfl rfl 23 (by decide) (hts (.fieldLink RX10 46 "LuckyTicketModel" "times" "[I") (List.mem_of_getElem? (i := 3) rfl)) (fun _ h9 => h9) rfl dX10_isSame_48 ?_
      refine lv_iload_n hx hb dX10_isSame_51 rfl (lv_at hl 2 rfl) ?_
      refine va_iald hx hb hK hP 3 2 rfl rfl (vp_in_b b_y_1808 (by decide) (by decide)) dX10_isSame_52 ?_
      refine lv_topi (fun z_3091 e_z_3091 => ?_)
      refine lv_icmp_eq (tgt := 58) hx hb dX10_isSame_53 (by decide) (fun c_3092 => ?_) (fun c_3092 => ?_)
      ·
        have n_c_3092 : (y_2858.toInt : Int) = z_3091.toInt := c_eq rfl rfl c_3092
        obtain ⟨z_3093, e_z_3093⟩ : ∃ y : Int32, y = y_1808 + 1 := ⟨_, rfl⟩
        refine lv_iinc (v := z_3093) (lv' := [(1, .int z_3093), (3, .int y_2857), (2, .int y_2858), (0, .ref o0)]) hx hb dX10_isSame_58 hl (k := 2) rfl (by rw [e_z_3093]; rfl) (by decide) rfl (fun ls hl => ?_)
        obtain ⟨q_z_3093, b_z_3093⟩ := ti_add (lo := 1) (hi := 16) e_z_3093 rfl (by decide : (1 : Int32).toInt = 1) b_y_1808 (by decide : (1 : Int) ≤ (1 : Int32).toInt ∧ (1 : Int32).toInt ≤ 1) (by decide)
        refine lv_goto (tgt := 2) hx hb dX10_isSame_61 (by decide) ?_
        exact ih_2_2840 z_3093 _ ⟨(show (0 : Int) ≤ z_3093.toInt ∧ z_3093.toInt ≤ 16 from (rg_w b_z_3093 (by decide) (by decide))), lv_sub hl [0, 3] rfl⟩ (show (16 - z_3093.toInt).toNat < (16 - y_1808.toInt).toNat by omega)
      ·
        have n_c_3092 : (y_2858.toInt : Int) ≠ z_3091.toInt := c_ne rfl rfl c_3092
        refine lv_iconst (v := 0) hx hb dX10_isSame_56 (by decide) ?_
        exact W.zret (v := 0) hx hb hr rfl (fun t ht hW => ⟨0, rfl, (rg_w (by decide : (0 : Int) ≤ (0 : Int32).toInt ∧ (0 : Int32).toInt ≤ 0) (by decide) (by decide)), ht⟩) t_nil dX10_isSame_57
    ·
      have n_c_3085 : (y_2857.toInt : Int) < ln.toInt := c_nge rfl rfl c_3085
      have b_y_2857 : (0 : Int) ≤ y_2857.toInt ∧ y_2857.toInt ≤ 11 := r_lt1 b_y_2857 b_ln n_c_3085 (by decide)
      have b_ln : (1 : Int) ≤ ln.toInt ∧ ln.toInt ≤ 12 := r_lt2 b_y_2857 b_ln n_c_3085 (by decide)
      refine lv_iload_n hx hb dX10_isSame_22 rfl (lv_at hl 1 rfl) ?_
      refine lv_aload_n hx hb dX10_isSame_23 rfl (lv_at hl 3 rfl) ?_
      refine va_get (D := (dC, dI)) (ci := 8) (v := .ref mfg) (C := RX10) (T := TX10) (N := 33) hx hb hts iX10_isSame_X10 hown hK hP 0 rfl rfl 20 (by decide) (hts (.fieldLink RX10 40 "LuckyTicketModel" "figures" "[I") (List.mem_of_getElem? (i := 2) rfl)) (fun _ h9 => h9) rfl dX10_isSame_24 ?_
      refine lv_iload_n hx hb dX10_isSame_27 rfl (lv_at hl 0 rfl) ?_
      refine va_iald hx hb hK hP 2 1 rfl rfl (vp_in_b b_y_2857 (by decide) (by decide)) dX10_isSame_28 ?_
      refine lv_topi (fun z_3094 e_z_3094 => ?_)
      have b_z_3094 : (0 : Int) ≤ z_3094.toInt ∧ z_3094.toInt ≤ 15 := rg_at ha_mfg (vp_in_b b_y_2857 (by decide) (by decide)) e_z_3094
      refine lv_iload_n hx hb dX10_isSame_29 rfl (lv_at hl 2 rfl) ?_
      refine cutP (σ := Int32) (pc2 := 38) (st2 := fun v => [.int v, .int y_2858]) (cells2 := 0) (slots2 := 0) (fun v ls => ((0 : Int) ≤ v.toInt ∧ v.toInt ≤ 1) ∧ lv_has ls 4 [(3, .int y_2857), (2, .int y_2858), (1, .int y_1808), (0, .ref o0)]) (fun v ls hI => ?_) (fun hj_38_3096 => ?_)
      ·
        obtain ⟨y_3096, rfl⟩ : ∃ z, z = v := ⟨_, rfl⟩
        obtain ⟨b_y_3096, hl⟩ := hI
        have b_y_3096 : (0 : Int) ≤ y_3096.toInt ∧ y_3096.toInt ≤ 1 := b_y_3096
        have hl : lv_has ls 4 [(3, .int y_2857), (2, .int y_2858), (1, .int y_1808), (0, .ref o0)] := hl
        refine lv_iadd hx hb dX10_isSame_38 ?_
        refine lv_topi (fun z_3097 e_z_3097 => ?_)
        refine lv_istore_n (lv' := [(2, .int z_3097), (3, .int y_2857), (1, .int y_1808), (0, .ref o0)]) hx hb dX10_isSame_39 rfl hl (by decide) rfl (fun ls hl => ?_)
        obtain ⟨z_3098, e_z_3098⟩ : ∃ y : Int32, y = y_2857 + 1 := ⟨_, rfl⟩
        refine lv_iinc (v := z_3098) (lv' := [(3, .int z_3098), (2, .int z_3097), (1, .int y_1808), (0, .ref o0)]) hx hb dX10_isSame_40 hl (k := 1) rfl (by rw [e_z_3098]; rfl) (by decide) rfl (fun ls hl => ?_)
        obtain ⟨q_z_3098, b_z_3098⟩ := ti_add (lo := 1) (hi := 12) e_z_3098 rfl (by decide : (1 : Int32).toInt = 1) b_y_2857 (by decide : (1 : Int) ≤ (1 : Int32).toInt ∧ (1 : Int32).toInt ≤ 1) (by decide)
        refine lv_goto (tgt := 12) hx hb dX10_isSame_43 (by decide) ?_
        exact ih_12_3083 (z_3098, z_3097) _ ⟨(show (0 : Int) ≤ z_3098.toInt ∧ z_3098.toInt ≤ 12 from (rg_w b_z_3098 (by decide) (by decide))), lv_sub hl [0, 1, 2, 3] rfl⟩ (show (12 - z_3098.toInt).toNat < (12 - y_2857.toInt).toNat by omega)
      ·
        refine lv_icmp_ne (tgt := 37) hx hb dX10_isSame_30 (by decide) (fun c_3095 => ?_) (fun c_3095 => ?_)
        ·
          have n_c_3095 : (z_3094.toInt : Int) ≠ y_1808.toInt := c_ne rfl rfl c_3095
          refine lv_iconst (v := 0) hx hb dX10_isSame_37 (by decide) ?_
          exact hj_38_3096 (0 : Int32) _ ⟨(show (0 : Int) ≤ (0 : Int32).toInt ∧ (0 : Int32).toInt ≤ 1 from (rg_w (by decide : (0 : Int) ≤ (0 : Int32).toInt ∧ (0 : Int32).toInt ≤ 0) (by decide) (by decide))), lv_sub hl [0, 1, 2, 3] rfl⟩
        ·
          have n_c_3095 : (z_3094.toInt : Int) = y_1808.toInt := c_eq rfl rfl c_3095
          refine lv_iconst (v := 1) hx hb dX10_isSame_33 (by decide) ?_
          refine lv_goto (tgt := 38) hx hb dX10_isSame_34 (by decide) ?_
          exact hj_38_3096 (1 : Int32) _ ⟨(show (0 : Int) ≤ (1 : Int32).toInt ∧ (1 : Int32).toInt ≤ 1 from (rg_w (by decide : (1 : Int) ≤ (1 : Int32).toInt ∧ (1 : Int32).toInt ≤ 1) (by decide) (by decide))), lv_sub hl [0, 1, 2, 3] rfl⟩
theorem dX10_same_0 : decode cX10_same 0 = .ok (.aload_n 0, 1) := by decide +kernel
theorem dX10_same_1 : decode cX10_same 1 = .ok (.iload_n 1, 1) := by decide +kernel
theorem dX10_same_2 : decode cX10_same 2 = .ok (.iload_n 2, 1) := by decide +kernel
theorem dX10_same_3 : decode cX10_same 3 = .ok (.invokevirtual 313, 3) := by decide +kernel
theorem dX10_same_6 : decode cX10_same 6 = .ok (.ifCond .eq 15, 3) := by decide +kernel
theorem dX10_same_9 : decode cX10_same 9 = .ok (.iload_n 3, 1) := by decide +kernel
theorem dX10_same_10 : decode cX10_same 10 = .ok (.i2l, 1) := by decide +kernel
theorem dX10_same_11 : decode cX10_same 11 = .ok (.lconst 0, 1) := by decide +kernel
theorem dX10_same_12 : decode cX10_same 12 = .ok (.ldc2_w 80, 3) := by decide +kernel
theorem dX10_same_15 : decode cX10_same 15 = .ok (.invokestatic 82, 3) := by decide +kernel
theorem dX10_same_18 : decode cX10_same 18 = .ok (.ifCond .ne 6, 3) := by decide +kernel
theorem dX10_same_21 : decode cX10_same 21 = .ok (.bipush (-2), 2) := by decide +kernel
theorem dX10_same_23 : decode cX10_same 23 = .ok (.ireturn, 1) := by decide +kernel
theorem dX10_same_24 : decode cX10_same 24 = .ok (.aload_n 0, 1) := by decide +kernel
theorem dX10_same_25 : decode cX10_same 25 = .ok (.iload_n 2, 1) := by decide +kernel
theorem dX10_same_26 : decode cX10_same 26 = .ok (.invokevirtual 302, 3) := by decide +kernel
theorem dX10_same_29 : decode cX10_same 29 = .ok (.iconst 0, 1) := by decide +kernel
theorem dX10_same_30 : decode cX10_same 30 = .ok (.istore 4, 2) := by decide +kernel
theorem dX10_same_32 : decode cX10_same 32 = .ok (.iload 4, 2) := by decide +kernel
theorem dX10_same_34 : decode cX10_same 34 = .ok (.bipush 16, 2) := by decide +kernel
theorem dX10_same_36 : decode cX10_same 36 = .ok (.if_icmp .ge 17, 3) := by decide +kernel
theorem dX10_same_39 : decode cX10_same 39 = .ok (.aload_n 0, 1) := by decide +kernel
theorem dX10_same_40 : decode cX10_same 40 = .ok (.getfield 46, 3) := by decide +kernel
theorem dX10_same_43 : decode cX10_same 43 = .ok (.iload 4, 2) := by decide +kernel
theorem dX10_same_45 : decode cX10_same 45 = .ok (.iconst 0, 1) := by decide +kernel
theorem dX10_same_46 : decode cX10_same 46 = .ok (.iastore, 1) := by decide +kernel
theorem dX10_same_47 : decode cX10_same 47 = .ok (.iinc 4 1, 3) := by decide +kernel
theorem dX10_same_50 : decode cX10_same 50 = .ok (.goto (-18), 3) := by decide +kernel
theorem dX10_same_53 : decode cX10_same 53 = .ok (.iconst 0, 1) := by decide +kernel
theorem dX10_same_54 : decode cX10_same 54 = .ok (.istore 4, 2) := by decide +kernel
theorem dX10_same_56 : decode cX10_same 56 = .ok (.iload 4, 2) := by decide +kernel
theorem dX10_same_58 : decode cX10_same 58 = .ok (.aload_n 0, 1) := by decide +kernel
theorem dX10_same_59 : decode cX10_same 59 = .ok (.getfield 9, 3) := by decide +kernel
theorem dX10_same_62 : decode cX10_same 62 = .ok (.iconst 0, 1) := by decide +kernel
theorem dX10_same_63 : decode cX10_same 63 = .ok (.iaload, 1) := by decide +kernel
theorem dX10_same_64 : decode cX10_same 64 = .ok (.if_icmp .ge 25, 3) := by decide +kernel
theorem dX10_same_67 : decode cX10_same 67 = .ok (.aload_n 0, 1) := by decide +kernel
theorem dX10_same_68 : decode cX10_same 68 = .ok (.getfield 46, 3) := by decide +kernel
theorem dX10_same_71 : decode cX10_same 71 = .ok (.aload_n 0, 1) := by decide +kernel
theorem dX10_same_72 : decode cX10_same 72 = .ok (.getfield 40, 3) := by decide +kernel
theorem dX10_same_75 : decode cX10_same 75 = .ok (.iload 4, 2) := by decide +kernel
theorem dX10_same_77 : decode cX10_same 77 = .ok (.iaload, 1) := by decide +kernel
theorem dX10_same_78 : decode cX10_same 78 = .ok (.dup2, 1) := by decide +kernel
theorem dX10_same_79 : decode cX10_same 79 = .ok (.iaload, 1) := by decide +kernel
theorem dX10_same_80 : decode cX10_same 80 = .ok (.iconst 1, 1) := by decide +kernel
theorem dX10_same_81 : decode cX10_same 81 = .ok (.iadd, 1) := by decide +kernel
theorem dX10_same_82 : decode cX10_same 82 = .ok (.iastore, 1) := by decide +kernel
theorem dX10_same_83 : decode cX10_same 83 = .ok (.iinc 4 1, 3) := by decide +kernel
theorem dX10_same_86 : decode cX10_same 86 = .ok (.goto (-30), 3) := by decide +kernel
theorem dX10_same_89 : decode cX10_same 89 = .ok (.iconst 0, 1) := by decide +kernel
theorem dX10_same_90 : decode cX10_same 90 = .ok (.istore 4, 2) := by decide +kernel
theorem dX10_same_92 : decode cX10_same 92 = .ok (.iconst 0, 1) := by decide +kernel
theorem dX10_same_93 : decode cX10_same 93 = .ok (.istore 5, 2) := by decide +kernel
theorem dX10_same_95 : decode cX10_same 95 = .ok (.iconst (-1), 1) := by decide +kernel
theorem dX10_same_96 : decode cX10_same 96 = .ok (.istore 6, 2) := by decide +kernel
theorem dX10_same_98 : decode cX10_same 98 = .ok (.iconst 0, 1) := by decide +kernel
theorem dX10_same_99 : decode cX10_same 99 = .ok (.istore 7, 2) := by decide +kernel
theorem dX10_same_101 : decode cX10_same 101 = .ok (.iload 7, 2) := by decide +kernel
theorem dX10_same_103 : decode cX10_same 103 = .ok (.aload_n 0, 1) := by decide +kernel
theorem dX10_same_104 : decode cX10_same 104 = .ok (.getfield 9, 3) := by decide +kernel
theorem dX10_same_107 : decode cX10_same 107 = .ok (.iconst 2, 1) := by decide +kernel
theorem dX10_same_108 : decode cX10_same 108 = .ok (.iaload, 1) := by decide +kernel
theorem dX10_same_109 : decode cX10_same 109 = .ok (.if_icmp .ge 73, 3) := by decide +kernel
theorem dX10_same_112 : decode cX10_same 112 = .ok (.aload_n 0, 1) := by decide +kernel
theorem dX10_same_113 : decode cX10_same 113 = .ok (.iload 7, 2) := by decide +kernel
theorem dX10_same_115 : decode cX10_same 115 = .ok (.invokevirtual 302, 3) := by decide +kernel
theorem dX10_same_118 : decode cX10_same 118 = .ok (.aload_n 0, 1) := by decide +kernel
theorem dX10_same_119 : decode cX10_same 119 = .ok (.invokevirtual 433, 3) := by decide +kernel
theorem dX10_same_122 : decode cX10_same 122 = .ok (.ifCond .ne 6, 3) := by decide +kernel
theorem dX10_same_125 : decode cX10_same 125 = .ok (.goto 51, 3) := by decide +kernel
theorem dX10_same_128 : decode cX10_same 128 = .ok (.iinc 4 1, 3) := by decide +kernel
theorem dX10_same_131 : decode cX10_same 131 = .ok (.iload 5, 2) := by decide +kernel
theorem dX10_same_133 : decode cX10_same 133 = .ok (.aload_n 0, 1) := by decide +kernel
theorem dX10_same_134 : decode cX10_same 134 = .ok (.iload_n 1, 1) := by decide +kernel
theorem dX10_same_135 : decode cX10_same 135 = .ok (.iload 7, 2) := by decide +kernel
theorem dX10_same_137 : decode cX10_same 137 = .ok (.invokevirtual 316, 3) := by decide +kernel
theorem dX10_same_140 : decode cX10_same 140 = .ok (.ifCond .eq 7, 3) := by decide +kernel
theorem dX10_same_143 : decode cX10_same 143 = .ok (.iconst 1, 1) := by decide +kernel
theorem dX10_same_144 : decode cX10_same 144 = .ok (.goto 4, 3) := by decide +kernel
theorem dX10_same_147 : decode cX10_same 147 = .ok (.iconst 0, 1) := by decide +kernel
theorem dX10_same_148 : decode cX10_same 148 = .ok (.iadd, 1) := by decide +kernel
theorem dX10_same_149 : decode cX10_same 149 = .ok (.istore 5, 2) := by decide +kernel
theorem dX10_same_151 : decode cX10_same 151 = .ok (.iload 6, 2) := by decide +kernel
theorem dX10_same_153 : decode cX10_same 153 = .ok (.iconst (-1), 1) := by decide +kernel
theorem dX10_same_154 : decode cX10_same 154 = .ok (.if_icmp .ne 18, 3) := by decide +kernel
theorem dX10_same_157 : decode cX10_same 157 = .ok (.aload_n 0, 1) := by decide +kernel
theorem dX10_same_158 : decode cX10_same 158 = .ok (.iload_n 1, 1) := by decide +kernel
theorem dX10_same_159 : decode cX10_same 159 = .ok (.iload 7, 2) := by decide +kernel
theorem dX10_same_161 : decode cX10_same 161 = .ok (.invokevirtual 316, 3) := by decide +kernel
theorem dX10_same_164 : decode cX10_same 164 = .ok (.ifCond .eq 8, 3) := by decide +kernel
theorem dX10_same_167 : decode cX10_same 167 = .ok (.iload 7, 2) := by decide +kernel
theorem dX10_same_169 : decode cX10_same 169 = .ok (.goto 5, 3) := by decide +kernel
theorem dX10_same_172 : decode cX10_same 172 = .ok (.iload 6, 2) := by decide +kernel
theorem dX10_same_174 : decode cX10_same 174 = .ok (.istore 6, 2) := by decide +kernel
theorem dX10_same_176 : decode cX10_same 176 = .ok (.iinc 7 1, 3) := by decide +kernel
theorem dX10_same_179 : decode cX10_same 179 = .ok (.goto (-78), 3) := by decide +kernel
theorem dX10_same_182 : decode cX10_same 182 = .ok (.iload_n 3, 1) := by decide +kernel
theorem dX10_same_183 : decode cX10_same 183 = .ok (.ifCond .ne 8, 3) := by decide +kernel
theorem dX10_same_186 : decode cX10_same 186 = .ok (.iload 4, 2) := by decide +kernel
theorem dX10_same_188 : decode cX10_same 188 = .ok (.goto 15, 3) := by decide +kernel
theorem dX10_same_191 : decode cX10_same 191 = .ok (.iload_n 3, 1) := by decide +kernel
theorem dX10_same_192 : decode cX10_same 192 = .ok (.iconst 1, 1) := by decide +kernel
theorem dX10_same_193 : decode cX10_same 193 = .ok (.if_icmp .ne 8, 3) := by decide +kernel
theorem dX10_same_196 : decode cX10_same 196 = .ok (.iload 5, 2) := by decide +kernel
theorem dX10_same_198 : decode cX10_same 198 = .ok (.goto 5, 3) := by decide +kernel
theorem dX10_same_201 : decode cX10_same 201 = .ok (.iload 6, 2) := by decide +kernel
theorem dX10_same_203 : decode cX10_same 203 = .ok (.ireturn, 1) := by decide +kernel
def uX10_same : List Cond := .code yX10_same cX10_same 8 (some .int) :: ([.methodLink RX10 313 yX10_isBoth, .instanceMethod yX10_isBoth, .selects RX10 yX10_isBoth yX10_isBoth, .initialized RX10, .code yX10_isBoth cX10_isBoth 3 (some .boolean), .methodLink RX10 89 yX10_isLaw, .instanceMethod yX10_isLaw, .selects RX10 yX10_isLaw yX10_isLaw, .code yX10_isLaw cX10_isLaw 2 (some .boolean), .fieldLink RX10 9 "LuckyTicketModel" "world" "[I", .methodLink RX10 82 yX10_in, .static yX10_in, .code yX10_in cX10_in 6 (some .boolean), .methodLink RX10 93 yX10_isTicket, .instanceMethod yX10_isTicket, .selects RX10 yX10_isTicket yX10_isTicket, .code yX10_isTicket cX10_isTicket 3 (some .boolean), .constantLong RX10 80 (2), .methodLink RX10 302 yX10_fillFigures, .instanceMethod yX10_fillFigures, .selects RX10 yX10_fillFigures yX10_fillFigures, .code yX10_fillFigures cX10_fillFigures 4 none, .fieldLink RX10 40 "LuckyTicketModel" "figures" "[I", .fieldLink RX10 46 "LuckyTicketModel" "times" "[I", .methodLink RX10 433 yX10_isSame, .instanceMethod yX10_isSame, .selects RX10 yX10_isSame yX10_isSame, .code yX10_isSame cX10_isSame 4 (some .boolean), .methodLink RX10 316 yX10_isLucky, .instanceMethod yX10_isLucky, .selects RX10 yX10_isLucky yX10_isLucky, .code yX10_isLucky cX10_isLucky 3 (some .boolean), .fieldLink RX10 20 "LuckyTicketModel" "luck" "[I"] ++ wsX100)
theorem iX10_same_X10 : ∀ w ∈ wsX100, w ∈ uX10_same := fun _ h => List.mem_cons_of_mem _ (List.mem_append_right _ h)
set_option maxRecDepth 20000 in
theorem gX10_same__X10_isBoth_V313 : GoodIn uX10_same (wsV RX10 313 RX10 yX10_isBoth uX10_isBoth) := goodIn_p _ [5, 9, 13, 17] rfl (by decide +kernel)
set_option maxRecDepth 20000 in
theorem gX10_same__X10_in_S82 : GoodIn uX10_same (va_wsS RX10 82 yX10_in uX10_in) := goodIn_p _ [13] rfl (by decide +kernel)
set_option maxRecDepth 20000 in
theorem gX10_same__X10_fillFigures_V302 : GoodIn uX10_same (wsV RX10 302 RX10 yX10_fillFigures uX10_fillFigures) := goodIn_p _ [22] rfl (by decide +kernel)
set_option maxRecDepth 20000 in
theorem gX10_same__X10_isSame_V433 : GoodIn uX10_same (wsV RX10 433 RX10 yX10_isSame uX10_isSame) := goodIn_p _ [28] rfl (by decide +kernel)
set_option maxRecDepth 20000 in
theorem gX10_same__X10_isLucky_V316 : GoodIn uX10_same (wsV RX10 316 RX10 yX10_isLucky uX10_isLucky) := goodIn_p _ [32] rfl (by decide +kernel)
set_option maxHeartbeats 4000000 in
set_option maxRecDepth 100000 in
theorem kX10_same (l : Launch) (dC : Nat → ClassId) (dI : Nat → Nat → Nat) (o0 : Nat) (x_th : Int32) (mwo : Nat) (mim : Nat) (mhi : Nat) (mlu : Nat) (mtp : Nat) (x_td : Int32) (mfv : Nat) (x_sz : Int32) (x_at : Int32) (x_fr : Int32) (x_to : Int32) (x_va : Int32) (x_fk : Int32) (x_fp : Int32) (mfr : Nat) (mwt : Nat) (x_wt : Int32) (x_op : Int32) (x_jo : Int32) (mfg : Nat) (mpl : Nat) (x_dr : Int64) (mtm : Nat) (mfa : Nat) (mqu : Nat) (mmo : Nat) (mwy : Nat) (mwn : Nat) (mma : Nat) (mwi : Nat) (mnu : Nat) (mmv : Nat) (c_wo : ClassId) (c_lu : ClassId) (c_fg : ClassId) (c_tm : ClassId) (w_wo : Nat → Int32) (w_lu : Nat → Int32) (w_fg : Nat → Int32) (w_tm : Nat → Int32) (ln : Int32) (bs : Int32) (tk : Int32) (lw : Int32) (li : Int32) (a1 : Int32) (a2 : Int32) (a3 : Int32) (sz : Nat) (b_ln : (0 : Int) ≤ ln.toInt ∧ ln.toInt ≤ 12) (b_bs : (0 : Int) ≤ bs.toInt ∧ bs.toInt ≤ 16) (b_tk : (0 : Int) ≤ tk.toInt ∧ tk.toInt ≤ 20000) (b_lw : (0 : Int) ≤ lw.toInt ∧ lw.toInt ≤ 9) (ha_mfg : rg w_fg 12 0 15) (hw0 : w_wo 0 = ln) (hw1 : w_wo 1 = bs) (hw2 : w_wo 2 = tk) (hw3 : w_wo 3 = lw) (hw4 : w_wo 4 = li) (hwz : (ln.toInt = 0 ∧ bs.toInt = 0 ∧ tk.toInt = 0 ∧ lw.toInt = 0) ∨ (1 ≤ ln.toInt ∧ 2 ≤ bs.toInt ∧ 1 ≤ tk.toInt)) : Met l yX10_same uX10_same ({ frames := 3, cells := 0, slots := 0, locals := 69 }) (va_Pc [.ref o0, .int a1, .int a2, .int a3] (hw (dC, dI) vwCl [(o0, .inr (8, [.int x_th, .ref mwo, .ref mim, .ref mhi, .ref mlu, .ref mtp, .int x_td, .ref mfv, .int x_sz, .int x_at, .int x_fr, .int x_to, .int x_va, .int x_fk, .int x_fp, .ref mfr, .ref mwt, .int x_wt, .int x_op, .int x_jo, .ref mfg, .ref mpl, .long x_dr, .ref mtm, .ref mfa, .ref mqu, .ref mmo, .ref mwy, .ref mwn, .ref mma, .ref mwi, .ref mnu, .ref mmv])), (mwo, .inl (c_wo, 1875, .inl w_wo)), (mlu, .inl (c_lu, 20000, .inl w_lu)), (mfg, .inl (c_fg, 12, .inl w_fg)), (mtm, .inl (c_tm, 16, .inl w_tm))] [(c_wo, .int), (c_lu, .int), (c_fg, .int), (c_tm, .int)] sz)) (va_Qi (fun (r : Int32) (_ : Unit) => True) (fun (_ : Unit) t => ∃ (o0_ : Nat → Int32) (o1_ : Nat → Int32), (rg o0_ 12 0 15) ∧ va_P (dC, dI) vwCl [(o0, .inr (8, [.int x_th, .ref mwo, .ref mim, .ref mhi, .ref mlu, .ref mtp, .int x_td, .ref mfv, .int x_sz, .int x_at, .int x_fr, .int x_to, .int x_va, .int x_fk, .int x_fp, .ref mfr, .ref mwt, .int x_wt, .int x_op, .int x_jo, .ref mfg, .ref mpl, .long x_dr, .ref mtm, .ref mfa, .ref mqu, .ref mmo, .ref mwy, .ref mwn, .ref mma, .ref mwi, .ref mnu, .ref mmv])), (mwo, .inl (c_wo, 1875, .inl w_wo)), (mlu, .inl (c_lu, 20000, .inl w_lu)), (mfg, .inl (c_fg, 12, .inl o0_)), (mtm, .inl (c_tm, 16, .inl o1_))] t.heap ∧ va_K (dC, dI) vwCl [(c_wo, .int), (c_lu, .int), (c_fg, .int), (c_tm, .int)] t ∧ va_D (va_A [(o0, .inr (8, [.int x_th, .ref mwo, .ref mim, .ref mhi, .ref mlu, .ref mtp, .int x_td, .ref mfv, .int x_sz, .int x_at, .int x_fr, .int x_to, .int x_va, .int x_fk, .int x_fp, .ref mfr, .ref mwt, .int x_wt, .int x_op, .int x_jo, .ref mfg, .ref mpl, .long x_dr, .ref mtm, .ref mfa, .ref mqu, .ref mmo, .ref mwy, .ref mwn, .ref mma, .ref mwi, .ref mnu, .ref mmv])), (mwo, .inl (c_wo, 1875, .inl w_wo)), (mlu, .inl (c_lu, 20000, .inl w_lu)), (mfg, .inl (c_fg, 12, .inl w_fg)), (mtm, .inl (c_tm, 16, .inl w_tm))] sz) [(o0, .inr (8, [.int x_th, .ref mwo, .ref mim, .ref mhi, .ref mlu, .ref mtp, .int x_td, .ref mfv, .int x_sz, .int x_at, .int x_fr, .int x_to, .int x_va, .int x_fk, .int x_fp, .ref mfr, .ref mwt, .int x_wt, .int x_op, .int x_jo, .ref mfg, .ref mpl, .long x_dr, .ref mtm, .ref mfa, .ref mqu, .ref mmo, .ref mwy, .ref mwn, .ref mma, .ref mwi, .ref mnu, .ref mmv])), (mwo, .inl (c_wo, 1875, .inl w_wo)), (mlu, .inl (c_lu, 20000, .inl w_lu)), (mfg, .inl (c_fg, 12, .inl o0_)), (mtm, .inl (c_tm, 16, .inl o1_))]) (va_A [(o0, .inr (8, [.int x_th, .ref mwo, .ref mim, .ref mhi, .ref mlu, .ref mtp, .int x_td, .ref mfv, .int x_sz, .int x_at, .int x_fr, .int x_to, .int x_va, .int x_fk, .int x_fp, .ref mfr, .ref mwt, .int x_wt, .int x_op, .int x_jo, .ref mfg, .ref mpl, .long x_dr, .ref mtm, .ref mfa, .ref mqu, .ref mmo, .ref mwy, .ref mwn, .ref mma, .ref mwi, .ref mnu, .ref mmv])), (mwo, .inl (c_wo, 1875, .inl w_wo)), (mlu, .inl (c_lu, 20000, .inl w_lu)), (mfg, .inl (c_fg, 12, .inl w_fg)), (mtm, .inl (c_tm, 16, .inl w_tm))] sz)) 0 0 (va_A [(o0, .inr (8, [.int x_th, .ref mwo, .ref mim, .ref mhi, .ref mlu, .ref mtp, .int x_td, .ref mfv, .int x_sz, .int x_at, .int x_fr, .int x_to, .int x_va, .int x_fk, .int x_fp, .ref mfr, .ref mwt, .int x_wt, .int x_op, .int x_jo, .ref mfg, .ref mpl, .long x_dr, .ref mtm, .ref mfa, .ref mqu, .ref mmo, .ref mwy, .ref mwn, .ref mma, .ref mwi, .ref mnu, .ref mmv])), (mwo, .inl (c_wo, 1875, .inl w_wo)), (mlu, .inl (c_lu, 20000, .inl w_lu)), (mfg, .inl (c_fg, 12, .inl w_fg)), (mtm, .inl (c_tm, 16, .inl w_tm))] sz) := by
  refine Met.ofW (cc := cX10_same) (maxL := 8) (ret := (some .int)) (by decide) rfl ?_
  intro p e s m args below meth c s₁ B hml hv
  obtain ⟨rfl, hsz, hP, hK, hD0, hN⟩ := hv
  have hx := B.exec
  have hb := B.bytes
  have hr := B.returns
  have hts := atoms_spec (ws := uX10_same) B.pre
  have hown : s.vm.findClass RX10 = some m.cls := findClass_of_methodNamed B.named
  have hlocks := B.notSynchronized
  subst hsz
  have hD := hD0.self (sz := s.heap.size)
  generalize hAe : va_A [(o0, .inr (8, [.int x_th, .ref mwo, .ref mim, .ref mhi, .ref mlu, .ref mtp, .int x_td, .ref mfv, .int x_sz, .int x_at, .int x_fr, .int x_to, .int x_va, .int x_fk, .int x_fp, .ref mfr, .ref mwt, .int x_wt, .int x_op, .int x_jo, .ref mfg, .ref mpl, .long x_dr, .ref mtm, .ref mfa, .ref mqu, .ref mmo, .ref mwy, .ref mwn, .ref mma, .ref mwi, .ref mnu, .ref mmv])), (mwo, .inl (c_wo, 1875, .inl w_wo)), (mlu, .inl (c_lu, 20000, .inl w_lu)), (mfg, .inl (c_fg, 12, .inl w_fg)), (mtm, .inl (c_tm, 16, .inl w_tm))] s.heap.size = A at hD ⊢
  have hA : ∀ q : Nat, s.heap.size ≤ q → A q := fun q h => by rw [← hAe]; exact Or.inr h
  have hS : va_S A s.heap s.heap [] := va_S.rf
  have hP : va_P (dC, dI) vwCl [(o0, .inr (8, [.int x_th, .ref mwo, .ref mim, .ref mhi, .ref mlu, .ref mtp, .int x_td, .ref mfv, .int x_sz, .int x_at, .int x_fr, .int x_to, .int x_va, .int x_fk, .int x_fp, .ref mfr, .ref mwt, .int x_wt, .int x_op, .int x_jo, .ref mfg, .ref mpl, .long x_dr, .ref mtm, .ref mfa, .ref mqu, .ref mmo, .ref mwy, .ref mwn, .ref mma, .ref mwi, .ref mnu, .ref mmv])), (mwo, .inl (c_wo, 1875, .inl w_wo)), (mlu, .inl (c_lu, 20000, .inl w_lu)), (mfg, .inl (c_fg, 12, .inl w_fg)), (mtm, .inl (c_tm, 16, .inl w_tm))] s.heap := hP
  have hl := lv_entry ([.ref o0, .int a1, .int a2, .int a3]) (n := 8) (Nat.le_of_ble_eq_true rfl)
  rw [lg_entry_eq]
  generalize (lg_sl ([.ref o0, .int a1, .int a2, .int a3]) ++ List.replicate (8 - (lg_sl ([.ref o0, .int a1, .int a2, .int a3])).length) Slot.unset).toArray = ls at hl ⊢
  have hl : lv_has ls 8 [(0, .ref o0), (1, .int a1), (2, .int a2), (3, .int a3)] := hl
  refine lv_aload_n hx hb dX10_same_0 rfl (lv_at hl 0 rfl) ?_
  refine lv_iload_n hx hb dX10_same_1 rfl (lv_at hl 1 rfl) ?_
  refine lv_iload_n hx hb dX10_same_2 rfl (lv_at hl 2 rfl) ?_
  refine vp_callSi (W.runV (As := [.int a1, .int a2]) (rest := []) ⟨hx, hb, hml, hown, hts⟩ (kX10_isBoth l dC dI o0 x_th mwo mim mhi mlu mtp x_td mfv x_sz x_at x_fr x_to x_va x_fk x_fp mfr mwt x_wt x_op x_jo mfg mpl x_dr mtm mfa mqu mmo mwy mwn mma mwi mnu mmv c_wo w_wo ln bs tk lw li a1 a2 b_ln b_bs b_tk b_lw (hw0) (hw1) (hw2) (hw3) (hw4) (hwz)) (cwV 2 hts gX10_same__X10_isBoth_V313 rfl rfl rfl (by decide +kernel) ⟨lel 3 3 rfl, lel 69 69 rfl⟩) ⟨pw_fb, va_recv hK hP (ci := 8) (q0 := 0) rfl rfl, (pw_use hP hK hN [0, 1] rfl [0] rfl)⟩ rfl rfl hl.1 rfl (lv_room (Nat.le_of_ble_eq_true rfl)) dX10_same_3 ⟨lel 0 0 rfl, lel 0 0 rfl⟩) (fun r_11690 h_r_11690 => ?_)
  obtain ⟨b_r_11690, nz_r_11690⟩ := h_r_11690
  have b_r_11690 : (0 : Int) ≤ r_11690.toInt ∧ r_11690.toInt ≤ 1 := b_r_11690
  refine lv_if_eq (tgt := 21) hx hb dX10_same_6 (by decide) (fun c_11691 => ?_) (fun c_11691 => ?_)
  ·
    have n_c_11691 : (r_11690.toInt : Int) = 0 := c_eq rfl (by decide) c_11691
    have b_r_11690 : (0 : Int) ≤ r_11690.toInt ∧ r_11690.toInt ≤ 0 := r_eq1 b_r_11690 (by decide : (0 : Int) ≤ (0 : Int32).toInt ∧ (0 : Int32).toInt ≤ 0) n_c_11691 (by decide)
    refine lv_bipush (v := (-2)) hx hb dX10_same_21 (by decide) ?_
    have hP9 := hP.sub (ws' := [(o0, .inr (8, [.int x_th, .ref mwo, .ref mim, .ref mhi, .ref mlu, .ref mtp, .int x_td, .ref mfv, .int x_sz, .int x_at, .int x_fr, .int x_to, .int x_va, .int x_fk, .int x_fp, .ref mfr, .ref mwt, .int x_wt, .int x_op, .int x_jo, .ref mfg, .ref mpl, .long x_dr, .ref mtm, .ref mfa, .ref mqu, .ref mmo, .ref mwy, .ref mwn, .ref mma, .ref mwi, .ref mnu, .ref mmv])), (mwo, .inl (c_wo, 1875, .inl w_wo)), (mlu, .inl (c_lu, 20000, .inl w_lu)), (mfg, .inl (c_fg, 12, .inl w_fg)), (mtm, .inl (c_tm, 16, .inl w_tm))]) [0, 1, 2, 3, 4] rfl
    have hD9 := hD.sub (ws' := [(o0, .inr (8, [.int x_th, .ref mwo, .ref mim, .ref mhi, .ref mlu, .ref mtp, .int x_td, .ref mfv, .int x_sz, .int x_at, .int x_fr, .int x_to, .int x_va, .int x_fk, .int x_fp, .ref mfr, .ref mwt, .int x_wt, .int x_op, .int x_jo, .ref mfg, .ref mpl, .long x_dr, .ref mtm, .ref mfa, .ref mqu, .ref mmo, .ref mwy, .ref mwn, .ref mma, .ref mwi, .ref mnu, .ref mmv])), (mwo, .inl (c_wo, 1875, .inl w_wo)), (mlu, .inl (c_lu, 20000, .inl w_lu)), (mfg, .inl (c_fg, 12, .inl w_fg)), (mtm, .inl (c_tm, 16, .inl w_tm))]) [0, 1, 2, 3, 4] (by decide) rfl
    have hK9 := hK.sub (tys' := [(c_wo, .int), (c_lu, .int), (c_fg, .int), (c_tm, .int)]) [0, 1, 2, 3] rfl
    exact W.iret (v := (-2)) hx hb hr (fun t ht hW => ⟨⟨(-2), (), rfl, trivial, w_fg, w_tm, ha_mfg, by rw [ht]; exact hP9, va_K.moved hW.alike hK9, hD9⟩, hS.F ht⟩) hS.2.2 dX10_same_23
  ·
    have n_c_11691 : (r_11690.toInt : Int) ≠ 0 := c_ne rfl (by decide) c_11691
    have b_r_11690 : (1 : Int) ≤ r_11690.toInt ∧ r_11690.toInt ≤ 1 := r_ne1 b_r_11690 (by decide : (0 : Int) ≤ (0 : Int32).toInt ∧ (0 : Int32).toInt ≤ 0) n_c_11691 (by decide)
    obtain ⟨b_a1, b_a2, g_11692⟩ := nz_r_11690 c_11691
    refine lv_iload_n hx hb dX10_same_9 rfl (lv_at hl 3 rfl) ?_
    obtain ⟨z_11693, e_z_11693⟩ : ∃ y : Int64, y = a3.toInt64 := ⟨_, rfl⟩
    refine lv_i2l (v := z_11693) hx hb dX10_same_10 e_z_11693.symm ?_
    obtain ⟨q_z_11693, b_z_11693⟩ := ti_i2l e_z_11693 (ti_rng a3)
    refine lv_lconst (v := 0) hx hb dX10_same_11 (by decide) ?_
    refine lv_ldc2 (v := 2) hx hb hown (hts (.constantLong RX10 80 (2)) (List.mem_of_getElem? (i := 18) rfl)) dX10_same_12 ?_
    refine vp_callSi (W.runS (As := [.long z_11693, .long 0, .long 2]) (rest := []) ⟨hx, hb, hml, hown, hts⟩ (kX10_in l dC dI z_11693 0 2 ) (va_cwS 3 hts gX10_same__X10_in_S82 rfl rfl rfl (by decide +kernel) ⟨lel 1 3 rfl, lel 25 69 rfl⟩) ⟨pn_fb, pn_use⟩ rfl rfl hl.1 rfl (lv_room (Nat.le_of_ble_eq_true rfl)) dX10_same_15 ⟨lel 0 0 rfl, lel 0 0 rfl⟩) (fun r_11694 h_r_11694 => ?_)
    obtain ⟨b_r_11694, nz_r_11694⟩ := h_r_11694
    have b_r_11694 : (0 : Int) ≤ r_11694.toInt ∧ r_11694.toInt ≤ 1 := b_r_11694
    refine lv_if_ne (tgt := 24) hx hb dX10_same_18 (by decide) (fun c_11695 => ?_) (fun c_11695 => ?_)
    ·
      have n_c_11695 : (r_11694.toInt : Int) ≠ 0 := c_ne rfl (by decide) c_11695
      have b_r_11694 : (1 : Int) ≤ r_11694.toInt ∧ r_11694.toInt ≤ 1 := r_ne1 b_r_11694 (by decide : (0 : Int) ≤ (0 : Int32).toInt ∧ (0 : Int32).toInt ≤ 0) n_c_11695 (by decide)
      have g_11696 := nz_r_11694 c_11695
      have lt0_g_11696 := (by decide : (0 : Int64).toInt = 0)
      have lt1_g_11696 := (by decide : (2 : Int64).toInt = 2)
      have b_z_11693 : (0 : Int) ≤ z_11693.toInt ∧ z_11693.toInt ≤ 2 := by
        have q0 := b_z_11693
        have q1 := (by decide : (0 : Int) ≤ (0 : Int64).toInt ∧ (0 : Int64).toInt ≤ 0)
        have q2 := (by decide : (2 : Int) ≤ (2 : Int64).toInt ∧ (2 : Int64).toInt ≤ 2)
        omega
      have b_a3 : (0 : Int) ≤ a3.toInt ∧ a3.toInt ≤ 2 := by
        have q0 := b_z_11693; have q1 := q_z_11693; have q2 := (ti_rng a3); omega
      refine lv_aload_n hx hb dX10_same_24 rfl (lv_at hl 0 rfl) ?_
      refine lv_iload_n hx hb dX10_same_25 rfl (lv_at hl 2 rfl) ?_
      have hFc := va_free (wc := [(o0, .inr (8, [.int x_th, .ref mwo, .ref mim, .ref mhi, .ref mlu, .ref mtp, .int x_td, .ref mfv, .int x_sz, .int x_at, .int x_fr, .int x_to, .int x_va, .int x_fk, .int x_fp, .ref mfr, .ref mwt, .int x_wt, .int x_op, .int x_jo, .ref mfg, .ref mpl, .long x_dr, .ref mtm, .ref mfa, .ref mqu, .ref mmo, .ref mwy, .ref mwn, .ref mma, .ref mwi, .ref mnu, .ref mmv])), (mwo, .inl (c_wo, 1875, .inl w_wo)), (mfg, .inl (c_fg, 12, .inl w_fg))]) hD hS hA [0, 1, 3] rfl
      refine va_callv (va_runV (As := [.int a2]) (rest := []) ⟨hx, hb, hml, hown, hts⟩ (kX10_fillFigures l dC dI o0 x_th mwo mim mhi mlu mtp x_td mfv x_sz x_at x_fr x_to x_va x_fk x_fp mfr mwt x_wt x_op x_jo mfg mpl x_dr mtm mfa mqu mmo mwy mwn mma mwi mnu mmv c_wo c_fg w_wo w_fg ln bs tk lw li a2 (s.heap.size) b_ln b_bs b_tk b_lw b_a2 ha_mfg (hw0) (hw1) (hw2) (hw3) (hw4) (hwz)) (cwV 1 hts gX10_same__X10_fillFigures_V302 rfl rfl rfl (by decide +kernel) ⟨lel 1 3 rfl, lel 23 69 rfl⟩) ⟨hw_fb, va_recv hK hP (ci := 8) (q0 := 0) rfl rfl, (hw_use hP hD hK hN [0, 1, 3] rfl (by decide) rfl [0, 2] rfl)⟩ rfl rfl hl.1 rfl (lv_room (Nat.le_of_ble_eq_true rfl)) dX10_same_26 ⟨lel 0 0 rfl, lel 0 0 rfl⟩) hS (fun q _ h => hFc q h) hFc (fun u_11698 t H1 locs ht hvm hw_r_11697 hB hz1 hk1 hS => ?_)
      obtain ⟨o0_11699, ha_11700, hP1, hK1, hD1⟩ := hB
      rw [ht] at hP1
      have hK1 := va_K.moved hvm.symm hK1
      obtain ⟨hP, hD⟩ := va_join (wr := [(mlu, .inl (c_lu, 20000, .inl w_lu)), (mtm, .inl (c_tm, 16, .inl w_tm))]) (w1 := [(o0, .inr (8, [.int x_th, .ref mwo, .ref mim, .ref mhi, .ref mlu, .ref mtp, .int x_td, .ref mfv, .int x_sz, .int x_at, .int x_fr, .int x_to, .int x_va, .int x_fk, .int x_fp, .ref mfr, .ref mwt, .int x_wt, .int x_op, .int x_jo, .ref mfg, .ref mpl, .long x_dr, .ref mtm, .ref mfa, .ref mqu, .ref mmo, .ref mwy, .ref mwn, .ref mma, .ref mwi, .ref mnu, .ref mmv])), (mwo, .inl (c_wo, 1875, .inl w_wo)), (mfg, .inl (c_fg, 12, .inl o0_11699))]) hP hD [0, 1, 3] [2, 4] rfl rfl (by decide) (by decide) hk1 hFc hP1 hD1
      have hK := (hK.sub (tys' := [(c_lu, .int), (c_tm, .int)]) [1, 3] rfl).app hK1
      generalize H1 = H at hP hS ⊢
      have hP := hP.sub (ws' := [(o0, .inr (8, [.int x_th, .ref mwo, .ref mim, .ref mhi, .ref mlu, .ref mtp, .int x_td, .ref mfv, .int x_sz, .int x_at, .int x_fr, .int x_to, .int x_va, .int x_fk, .int x_fp, .ref mfr, .ref mwt, .int x_wt, .int x_op, .int x_jo, .ref mfg, .ref mpl, .long x_dr, .ref mtm, .ref mfa, .ref mqu, .ref mmo, .ref mwy, .ref mwn, .ref mma, .ref mwi, .ref mnu, .ref mmv])), (mwo, .inl (c_wo, 1875, .inl w_wo)), (mlu, .inl (c_lu, 20000, .inl w_lu)), (mfg, .inl (c_fg, 12, .inl o0_11699)), (mtm, .inl (c_tm, 16, .inl w_tm))]) [2, 3, 0, 4, 1] rfl
      have hD := hD.sub (ws' := [(o0, .inr (8, [.int x_th, .ref mwo, .ref mim, .ref mhi, .ref mlu, .ref mtp, .int x_td, .ref mfv, .int x_sz, .int x_at, .int x_fr, .int x_to, .int x_va, .int x_fk, .int x_fp, .ref mfr, .ref mwt, .int x_wt, .int x_op, .int x_jo, .ref mfg, .ref mpl, .long x_dr, .ref mtm, .ref mfa, .ref mqu, .ref mmo, .ref mwy, .ref mwn, .ref mma, .ref mwi, .ref mnu, .ref mmv])), (mwo, .inl (c_wo, 1875, .inl w_wo)), (mlu, .inl (c_lu, 20000, .inl w_lu)), (mfg, .inl (c_fg, 12, .inl o0_11699)), (mtm, .inl (c_tm, 16, .inl w_tm))]) [2, 3, 0, 4, 1] (by decide) rfl
      have hK := hK.sub (tys' := [(c_wo, .int), (c_lu, .int), (c_fg, .int), (c_tm, .int)]) [2, 0, 3, 1] rfl
      have hP : va_P (dC, dI) vwCl [(o0, .inr (8, [.int x_th, .ref mwo, .ref mim, .ref mhi, .ref mlu, .ref mtp, .int x_td, .ref mfv, .int x_sz, .int x_at, .int x_fr, .int x_to, .int x_va, .int x_fk, .int x_fp, .ref mfr, .ref mwt, .int x_wt, .int x_op, .int x_jo, .ref mfg, .ref mpl, .long x_dr, .ref mtm, .ref mfa, .ref mqu, .ref mmo, .ref mwy, .ref mwn, .ref mma, .ref mwi, .ref mnu, .ref mmv])), (mwo, .inl (c_wo, 1875, .inl w_wo)), (mlu, .inl (c_lu, 20000, .inl w_lu)), (mfg, .inl (c_fg, 12, .inl o0_11699)), (mtm, .inl (c_tm, 16, .inl w_tm))] H := hP
      have hD : va_D A [(o0, .inr (8, [.int x_th, .ref mwo, .ref mim, .ref mhi, .ref mlu, .ref mtp, .int x_td, .ref mfv, .int x_sz, .int x_at, .int x_fr, .int x_to, .int x_va, .int x_fk, .int x_fp, .ref mfr, .ref mwt, .int x_wt, .int x_op, .int x_jo, .ref mfg, .ref mpl, .long x_dr, .ref mtm, .ref mfa, .ref mqu, .ref mmo, .ref mwy, .ref mwn, .ref mma, .ref mwi, .ref mnu, .ref mmv])), (mwo, .inl (c_wo, 1875, .inl w_wo)), (mlu, .inl (c_lu, 20000, .inl w_lu)), (mfg, .inl (c_fg, 12, .inl o0_11699)), (mtm, .inl (c_tm, 16, .inl w_tm))] := hD
      have hK : va_K (dC, dI) vwCl [(c_wo, .int), (c_lu, .int), (c_fg, .int), (c_tm, .int)] s := hK
      refine lv_iconst (v := 0) hx hb dX10_same_29 (by decide) ?_
      refine lv_istore (lv' := [(4, .int 0), (0, .ref o0), (1, .int a1), (2, .int a2), (3, .int a3)]) hx hb dX10_same_30 hl (by decide) rfl (fun ls hl => ?_)
      refine loopW (σ := Int32 × (Nat → Int32)) (fun v => (16 - v.1.toInt).toNat) (fun v H locs ls => ((0 : Int) ≤ v.1.toInt ∧ v.1.toInt ≤ 16) ∧ va_P (dC, dI) vwCl [(o0, .inr (8, [.int x_th, .ref mwo, .ref mim, .ref mhi, .ref mlu, .ref mtp, .int x_td, .ref mfv, .int x_sz, .int x_at, .int x_fr, .int x_to, .int x_va, .int x_fk, .int x_fp, .ref mfr, .ref mwt, .int x_wt, .int x_op, .int x_jo, .ref mfg, .ref mpl, .long x_dr, .ref mtm, .ref mfa, .ref mqu, .ref mmo, .ref mwy, .ref mwn, .ref mma, .ref mwi, .ref mnu, .ref mmv])), (mwo, .inl (c_wo, 1875, .inl w_wo)), (mlu, .inl (c_lu, 20000, .inl w_lu)), (mfg, .inl (c_fg, 12, .inl o0_11699)), (mtm, .inl (c_tm, 16, .inl v.2))] H ∧ va_D A [(o0, .inr (8, [.int x_th, .ref mwo, .ref mim, .ref mhi, .ref mlu, .ref mtp, .int x_td, .ref mfv, .int x_sz, .int x_at, .int x_fr, .int x_to, .int x_va, .int x_fk, .int x_fp, .ref mfr, .ref mwt, .int x_wt, .int x_op, .int x_jo, .ref mfg, .ref mpl, .long x_dr, .ref mtm, .ref mfa, .ref mqu, .ref mmo, .ref mwy, .ref mwn, .ref mma, .ref mwi, .ref mnu, .ref mmv])), (mwo, .inl (c_wo, 1875, .inl w_wo)), (mlu, .inl (c_lu, 20000, .inl w_lu)), (mfg, .inl (c_fg, 12, .inl o0_11699)), (mtm, .inl (c_tm, 16, .inl v.2))] ∧ va_S A s.heap H locs ∧ lv_has ls 8 [(4, .int v.1), (0, .ref o0), (1, .int a1), (2, .int a2), (3, .int a3)]) (fun v H locs ls hI ih_32_17546 => ?_) ((0 : Int32), w_tm) ⟨(show (0 : Int) ≤ (0 : Int32).toInt ∧ (0 : Int32).toInt ≤ 16 from (rg_w (by decide : (0 : Int) ≤ (0 : Int32).toInt ∧ (0 : Int32).toInt ≤ 0) (by decide) (by decide))), hP, hD, hS, lv_sub hl [0, 1, 2, 3, 4] rfl⟩
      obtain ⟨y_11704, f_11705⟩ := v
      obtain ⟨b_y_11704, hP, hD, hS, hl⟩ := hI
      have b_y_11704 : (0 : Int) ≤ y_11704.toInt ∧ y_11704.toInt ≤ 16 := b_y_11704
      have hP : va_P (dC, dI) vwCl [(o0, .inr (8, [.int x_th, .ref mwo, .ref mim, .ref mhi, .ref mlu, .ref mtp, .int x_td, .ref mfv, .int x_sz, .int x_at, .int x_fr, .int x_to, .int x_va, .int x_fk, .int x_fp, .ref mfr, .ref mwt, .int x_wt, .int x_op, .int x_jo, .ref mfg, .ref mpl, .long x_dr, .ref mtm, .ref mfa, .ref mqu, .ref mmo, .ref mwy, .ref mwn, .ref mma, .ref mwi, .ref mnu, .ref mmv])), (mwo, .inl (c_wo, 1875, .inl w_wo)), (mlu, .inl (c_lu, 20000, .inl w_lu)), (mfg, .inl (c_fg, 12, .inl o0_11699)), (mtm, .inl (c_tm, 16, .inl f_11705))] H := hP
      have hD : va_D A [(o0, .inr (8, [.int x_th, .ref mwo, .ref mim, .ref mhi, .ref mlu, .ref mtp, .int x_td, .ref mfv, .int x_sz, .int x_at, .int x_fr, .int x_to, .int x_va, .int x_fk, .int x_fp, .ref mfr, .ref mwt, .int x_wt, .int x_op, .int x_jo, .ref mfg, .ref mpl, .long x_dr, .ref mtm, .ref mfa, .ref mqu, .ref mmo, .ref mwy, .ref mwn, .ref mma, .ref mwi, .ref mnu, .ref mmv])), (mwo, .inl (c_wo, 1875, .inl w_wo)), (mlu, .inl (c_lu, 20000, .inl w_lu)), (mfg, .inl (c_fg, 12, .inl o0_11699)), (mtm, .inl (c_tm, 16, .inl f_11705))] := hD
      have hl : lv_has ls 8 [(4, .int y_11704), (0, .ref o0), (1, .int a1), (2, .int a2), (3, .int a3)] := hl
      refine lv_iload hx hb dX10_same_32 (lv_at hl 0 rfl) ?_
      refine lv_bipush (v := 16) hx hb dX10_same_34 (by decide) ?_
      refine lv_icmp_ge (tgt := 53) hx hb dX10_same_36 (by decide) (fun c_17547 => ?_) (fun c_17547 => ?_)
      ·
        have n_c_17547 : (16 : Int) ≤ y_11704.toInt := c_ge rfl (by decide) c_17547
        have b_y_11704 : (16 : Int) ≤ y_11704.toInt ∧ y_11704.toInt ≤ 16 := r_le2 (by decide : (16 : Int) ≤ (16 : Int32).toInt ∧ (16 : Int32).toInt ≤ 16) b_y_11704 n_c_17547 (by decide)
        refine lv_iconst (v := 0) hx hb dX10_same_53 (by decide) ?_
        refine lv_istore (lv' := [(4, .int 0), (0, .ref o0), (1, .int a1), (2, .int a2), (3, .int a3)]) hx hb dX10_same_54 hl (by decide) rfl (fun ls hl => ?_)
        refine loopW (σ := Int32 × (Nat → Int32)) (fun v => (12 - v.1.toInt).toNat) (fun v H locs ls => ((0 : Int) ≤ v.1.toInt ∧ v.1.toInt ≤ 12) ∧ va_P (dC, dI) vwCl [(o0, .inr (8, [.int x_th, .ref mwo, .ref mim, .ref mhi, .ref mlu, .ref mtp, .int x_td, .ref mfv, .int x_sz, .int x_at, .int x_fr, .int x_to, .int x_va, .int x_fk, .int x_fp, .ref mfr, .ref mwt, .int x_wt, .int x_op, .int x_jo, .ref mfg, .ref mpl, .long x_dr, .ref mtm, .ref mfa, .ref mqu, .ref mmo, .ref mwy, .ref mwn, .ref mma, .ref mwi, .ref mnu, .ref mmv])), (mwo, .inl (c_wo, 1875, .inl w_wo)), (mlu, .inl (c_lu, 20000, .inl w_lu)), (mfg, .inl (c_fg, 12, .inl o0_11699)), (mtm, .inl (c_tm, 16, .inl v.2))] H ∧ va_D A [(o0, .inr (8, [.int x_th, .ref mwo, .ref mim, .ref mhi, .ref mlu, .ref mtp, .int x_td, .ref mfv, .int x_sz, .int x_at, .int x_fr, .int x_to, .int x_va, .int x_fk, .int x_fp, .ref mfr, .ref mwt, .int x_wt, .int x_op, .int x_jo, .ref mfg, .ref mpl, .long x_dr, .ref mtm, .ref mfa, .ref mqu, .ref mmo, .ref mwy, .ref mwn, .ref mma, .ref mwi, .ref mnu, .ref mmv])), (mwo, .inl (c_wo, 1875, .inl w_wo)), (mlu, .inl (c_lu, 20000, .inl w_lu)), (mfg, .inl (c_fg, 12, .inl o0_11699)), (mtm, .inl (c_tm, 16, .inl v.2))] ∧ va_S A s.heap H locs ∧ lv_has ls 8 [(4, .int v.1), (0, .ref o0), (1, .int a1), (2, .int a2), (3, .int a3)]) (fun v H locs ls hI ih_56_22211 => ?_) ((0 : Int32), f_11705) ⟨(show (0 : Int) ≤ (0 : Int32).toInt ∧ (0 : Int32).toInt ≤ 12 from (rg_w (by decide : (0 : Int) ≤ (0 : Int32).toInt ∧ (0 : Int32).toInt ≤ 0) (by decide) (by decide))), hP, hD, hS, lv_sub hl [0, 1, 2, 3, 4] rfl⟩
        obtain ⟨y_18715, f_18716⟩ := v
        obtain ⟨b_y_18715, hP, hD, hS, hl⟩ := hI
        have b_y_18715 : (0 : Int) ≤ y_18715.toInt ∧ y_18715.toInt ≤ 12 := b_y_18715
        have hP : va_P (dC, dI) vwCl [(o0, .inr (8, [.int x_th, .ref mwo, .ref mim, .ref mhi, .ref mlu, .ref mtp, .int x_td, .ref mfv, .int x_sz, .int x_at, .int x_fr, .int x_to, .int x_va, .int x_fk, .int x_fp, .ref mfr, .ref mwt, .int x_wt, .int x_op, .int x_jo, .ref mfg, .ref mpl, .long x_dr, .ref mtm, .ref mfa, .ref mqu, .ref mmo, .ref mwy, .ref mwn, .ref mma, .ref mwi, .ref mnu, .ref mmv])), (mwo, .inl (c_wo, 1875, .inl w_wo)), (mlu, .inl (c_lu, 20000, .inl w_lu)), (mfg, .inl (c_fg, 12, .inl o0_11699)), (mtm, .inl (c_tm, 16, .inl f_18716))] H := hP
        have hD : va_D A [(o0, .inr (8, [.int x_th, .ref mwo, .ref mim, .ref mhi, .ref mlu, .ref mtp, .int x_td, .ref mfv, .int x_sz, .int x_at, .int x_fr, .int x_to, .int x_va, .int x_fk, .int x_fp, .ref mfr, .ref mwt, .int x_wt, .int x_op, .int x_jo, .ref mfg, .ref mpl, .long x_dr, .ref mtm, .ref mfa, .ref mqu, .ref mmo, .ref mwy, .ref mwn, .ref mma, .ref mwi, .ref mnu, .ref mmv])), (mwo, .inl (c_wo, 1875, .inl w_wo)), (mlu, .inl (c_lu, 20000, .inl w_lu)), (mfg, .inl (c_fg, 12, .inl o0_11699)), (mtm, .inl (c_tm, 16, .inl f_18716))] := hD
        have hl : lv_has ls 8 [(4, .int y_18715), (0, .ref o0), (1, .int a1), (2, .int a2), (3, .int a3)] := hl
        refine lv_iload hx hb dX10_same_56 (lv_at hl 0 rfl) ?_
        refine lv_aload_n hx hb dX10_same_58 rfl (lv_at hl 1 rfl) ?_
        refine va_get (D := (dC, dI)) (ci := 8) (v := .ref mwo) (C := RX10) (T := TX10) (N := 33) hx hb hts iX10_same_X10 hown hK hP 0 rfl rfl 1 (by decide) (hts (.fieldLink RX10 9 "LuckyTicketModel" "world" "[I") (List.mem_of_getElem? (i := 10) rfl)) (fun _ h9 => h9) rfl dX10_same_59 ?_
        refine lv_iconst (v := 0) hx hb dX10_same_62 (by decide) ?_
        refine va_iald hx hb hK hP 1 0 rfl rfl (vp_in_b (by decide : (0 : Int) ≤ (0 : Int32).toInt ∧ (0 : Int32).toInt ≤ 0) (by decide) (by decide)) dX10_same_63 ?_
        refine lv_topi (fun z_22212 e_z_22212 => ?_)
        obtain rfl : z_22212 = ln := e_z_22212.trans hw0
        refine lv_icmp_ge (tgt := 89) hx hb dX10_same_64 (by decide) (fun c_22213 => ?_) (fun c_22213 => ?_)
        ·
          have n_c_22213 : (ln.toInt : Int) ≤ y_18715.toInt := c_ge rfl rfl c_22213
          refine lv_iconst (v := 0) hx hb dX10_same_89 (by decide) ?_
          refine lv_istore (lv' := [(4, .int 0), (0, .ref o0), (1, .int a1), (2, .int a2), (3, .int a3)]) hx hb dX10_same_90 hl (by decide) rfl (fun ls hl => ?_)
          refine lv_iconst (v := 0) hx hb dX10_same_92 (by decide) ?_
          refine lv_istore (lv' := [(5, .int 0), (4, .int 0), (0, .ref o0), (1, .int a1), (2, .int a2), (3, .int a3)]) hx hb dX10_same_93 hl (by decide) rfl (fun ls hl => ?_)
          refine lv_iconst (v := (-1)) hx hb dX10_same_95 (by decide) ?_
          refine lv_istore (lv' := [(6, .int (-1)), (5, .int 0), (4, .int 0), (0, .ref o0), (1, .int a1), (2, .int a2), (3, .int a3)]) hx hb dX10_same_96 hl (by decide) rfl (fun ls hl => ?_)
          refine lv_iconst (v := 0) hx hb dX10_same_98 (by decide) ?_
          refine lv_istore (lv' := [(7, .int 0), (6, .int (-1)), (5, .int 0), (4, .int 0), (0, .ref o0), (1, .int a1), (2, .int a2), (3, .int a3)]) hx hb dX10_same_99 hl (by decide) rfl (fun ls hl => ?_)
          refine loopW (σ := Int32 × Int32 × Int32 × Int32 × (Nat → Int32)) (fun v => (20000 - v.1.toInt).toNat) (fun v H locs ls => ((0 : Int) ≤ v.1.toInt ∧ v.1.toInt ≤ 20000) ∧ ((-1 : Int) ≤ v.2.1.toInt ∧ v.2.1.toInt ≤ 19999) ∧ (rg v.2.2.2.2 12 0 15) ∧ va_P (dC, dI) vwCl [(o0, .inr (8, [.int x_th, .ref mwo, .ref mim, .ref mhi, .ref mlu, .ref mtp, .int x_td, .ref mfv, .int x_sz, .int x_at, .int x_fr, .int x_to, .int x_va, .int x_fk, .int x_fp, .ref mfr, .ref mwt, .int x_wt, .int x_op, .int x_jo, .ref mfg, .ref mpl, .long x_dr, .ref mtm, .ref mfa, .ref mqu, .ref mmo, .ref mwy, .ref mwn, .ref mma, .ref mwi, .ref mnu, .ref mmv])), (mwo, .inl (c_wo, 1875, .inl w_wo)), (mlu, .inl (c_lu, 20000, .inl w_lu)), (mfg, .inl (c_fg, 12, .inl v.2.2.2.2)), (mtm, .inl (c_tm, 16, .inl f_18716))] H ∧ va_D A [(o0, .inr (8, [.int x_th, .ref mwo, .ref mim, .ref mhi, .ref mlu, .ref mtp, .int x_td, .ref mfv, .int x_sz, .int x_at, .int x_fr, .int x_to, .int x_va, .int x_fk, .int x_fp, .ref mfr, .ref mwt, .int x_wt, .int x_op, .int x_jo, .ref mfg, .ref mpl, .long x_dr, .ref mtm, .ref mfa, .ref mqu, .ref mmo, .ref mwy, .ref mwn, .ref mma, .ref mwi, .ref mnu, .ref mmv])), (mwo, .inl (c_wo, 1875, .inl w_wo)), (mlu, .inl (c_lu, 20000, .inl w_lu)), (mfg, .inl (c_fg, 12, .inl v.2.2.2.2)), (mtm, .inl (c_tm, 16, .inl f_18716))] ∧ va_S A s.heap H locs ∧ lv_has ls 8 [(7, .int v.1), (6, .int v.2.1), (5, .int v.2.2.1), (4, .int v.2.2.2.1), (0, .ref o0), (1, .int a1), (2, .int a2), (3, .int a3)]) (fun v H locs ls hI ih_101_23303 => ?_) ((0 : Int32), (-1 : Int32), (0 : Int32), (0 : Int32), o0_11699) ⟨(show (0 : Int) ≤ (0 : Int32).toInt ∧ (0 : Int32).toInt ≤ 20000 from (rg_w (by decide : (0 : Int) ≤ (0 : Int32).toInt ∧ (0 : Int32).toInt ≤ 0) (by decide) (by decide))), (show (-1 : Int) ≤ (-1 : Int32).toInt ∧ (-1 : Int32).toInt ≤ 19999 from (rg_w (by decide : (-1 : Int) ≤ ((-1) : Int32).toInt ∧ ((-1) : Int32).toInt ≤ -1) (by decide) (by decide))), (show rg o0_11699 12 0 15 from ha_11700), hP, hD, hS, lv_sub hl [0, 1, 2, 3, 4, 5, 6, 7] rfl⟩
          obtain ⟨y_22279, y_22280, y_22281, y_22282, f_22283⟩ := v
          obtain ⟨b_y_22279, b_y_22280, ha_f_22283, hP, hD, hS, hl⟩ := hI
          have b_y_22279 : (0 : Int) ≤ y_22279.toInt ∧ y_22279.toInt ≤ 20000 := b_y_22279
          have b_y_22280 : (-1 : Int) ≤ y_22280.toInt ∧ y_22280.toInt ≤ 19999 := b_y_22280
          have ha_f_22283 : rg f_22283 12 0 15 := ha_f_22283
          have hP : va_P (dC, dI) vwCl [(o0, .inr (8, [.int x_th, .ref mwo, .ref mim, .ref mhi, .ref mlu, .ref mtp, .int x_td, .ref mfv, .int x_sz, .int x_at, .int x_fr, .int x_to, .int x_va, .int x_fk, .int x_fp, .ref mfr, .ref mwt, .int x_wt, .int x_op, .int x_jo, .ref mfg, .ref mpl, .long x_dr, .ref mtm, .ref mfa, .ref mqu, .ref mmo, .ref mwy, .ref mwn, .ref mma, .ref mwi, .ref mnu, .ref mmv])), (mwo, .inl (c_wo, 1875, .inl w_wo)), (mlu, .inl (c_lu, 20000, .inl w_lu)), (mfg, .inl (c_fg, 12, .inl f_22283)), (mtm, .inl (c_tm, 16, .inl f_18716))] H := hP
          have hD : va_D A [(o0, .inr (8, [.int x_th, .ref mwo, .ref mim, .ref mhi, .ref mlu, .ref mtp, .int x_td, .ref mfv, .int x_sz, .int x_at, .int x_fr, .int x_to, .int x_va, .int x_fk, .int x_fp, .ref mfr, .ref mwt, .int x_wt, .int x_op, .int x_jo, .ref mfg, .ref mpl, .long x_dr, .ref mtm, .ref mfa, .ref mqu, .ref mmo, .ref mwy, .ref mwn, .ref mma, .ref mwi, .ref mnu, .ref mmv])), (mwo, .inl (c_wo, 1875, .inl w_wo)), (mlu, .inl (c_lu, 20000, .inl w_lu)), (mfg, .inl (c_fg, 12, .inl f_22283)), (mtm, .inl (c_tm, 16, .inl f_18716))] := hD
          have hl : lv_has ls 8 [(7, .int y_22279), (6, .int y_22280), (5, .int y_22281), (4, .int y_22282), (0, .ref o0), (1, .int a1), (2, .int a2), (3, .int a3)] := hl
          refine lv_iload hx hb dX10_same_101 (lv_at hl 0 rfl) ?_
          refine lv_aload_n hx hb dX10_same_103 rfl (lv_at hl 4 rfl) ?_
          refine va_get (D := (dC, dI)) (ci := 8) (v := .ref mwo) (C := RX10) (T := TX10) (N := 33) hx hb hts iX10_same_X10 hown hK hP 0 rfl rfl 1 (by decide) (hts (.fieldLink RX10 9 "LuckyTicketModel" "world" "[I") (List.mem_of_getElem? (i := 10) rfl)) (fun _ h9 => h9) rfl dX10_same_104 ?_
          refine lv_iconst (v := 2) hx hb dX10_same_107 (by decide) ?_
          refine va_iald hx hb hK hP 1 0 rfl rfl (vp_in_b (by decide : (2 : Int) ≤ (2 : Int32).toInt ∧ (2 : Int32).toInt ≤ 2) (by decide) (by decide)) dX10_same_108 ?_
          refine lv_topi (fun z_23304 e_z_23304 => ?_)
          obtain rfl : z_23304 = tk := e_z_23304.trans hw2
          refine lv_icmp_ge (tgt := 182) hx hb dX10_same_109 (by decide) (fun c_23305 => ?_) (fun c_23305 => ?_)
          ·
            have n_c_23305 : (tk.toInt : Int) ≤ y_22279.toInt := c_ge rfl rfl c_23305
            refine lv_iload_n hx hb dX10_same_182 rfl (lv_at hl 7 rfl) ?_
            refine lv_if_ne (tgt := 191) hx hb dX10_same_183 (by decide) (fun c_23338 => ?_) (fun c_23338 => ?_)
            ·
              have n_c_23338 : (a3.toInt : Int) ≠ 0 := c_ne rfl (by decide) c_23338
              have b_a3 : (1 : Int) ≤ a3.toInt ∧ a3.toInt ≤ 2 := r_ne1 b_a3 (by decide : (0 : Int) ≤ (0 : Int32).toInt ∧ (0 : Int32).toInt ≤ 0) n_c_23338 (by decide)
              refine lv_iload_n hx hb dX10_same_191 rfl (lv_at hl 7 rfl) ?_
              refine lv_iconst (v := 1) hx hb dX10_same_192 (by decide) ?_
              refine lv_icmp_ne (tgt := 201) hx hb dX10_same_193 (by decide) (fun c_23339 => ?_) (fun c_23339 => ?_)
              ·
                have n_c_23339 : (a3.toInt : Int) ≠ 1 := c_ne rfl (by decide) c_23339
                have b_a3 : (2 : Int) ≤ a3.toInt ∧ a3.toInt ≤ 2 := r_ne1 b_a3 (by decide : (1 : Int) ≤ (1 : Int32).toInt ∧ (1 : Int32).toInt ≤ 1) n_c_23339 (by decide)
                refine lv_iload hx hb dX10_same_201 (lv_at hl 1 rfl) ?_
                have hP9 := hP.sub (ws' := [(o0, .inr (8, [.int x_th, .ref mwo, .ref mim, .ref mhi, .ref mlu, .ref mtp, .int x_td, .ref mfv, .int x_sz, .int x_at, .int x_fr, .int x_to, .int x_va, .int x_fk, .int x_fp, .ref mfr, .ref mwt, .int x_wt, .int x_op, .int x_jo, .ref mfg, .ref mpl, .long x_dr, .ref mtm, .ref mfa, .ref mqu, .ref mmo, .ref mwy, .ref mwn, .ref mma, .ref mwi, .ref mnu, .ref mmv])), (mwo, .inl (c_wo, 1875, .inl w_wo)), (mlu, .inl (c_lu, 20000, .inl w_lu)), (mfg, .inl (c_fg, 12, .inl f_22283)), (mtm, .inl (c_tm, 16, .inl f_18716))]) [0, 1, 2, 3, 4] rfl
                have hD9 := hD.sub (ws' := [(o0, .inr (8, [.int x_th, .ref mwo, .ref mim, .ref mhi, .ref mlu, .ref mtp, .int x_td, .ref mfv, .int x_sz, .int x_at, .int x_fr, .int x_to, .int x_va, .int x_fk, .int x_fp, .ref mfr, .ref mwt, .int x_wt, .int x_op, .int x_jo, .ref mfg, .ref mpl, .long x_dr, .ref mtm, .ref mfa, .ref mqu, .ref mmo, .ref mwy, .ref mwn, .ref mma, .ref mwi, .ref mnu, .ref mmv])), (mwo, .inl (c_wo, 1875, .inl w_wo)), (mlu, .inl (c_lu, 20000, .inl w_lu)), (mfg, .inl (c_fg, 12, .inl f_22283)), (mtm, .inl (c_tm, 16, .inl f_18716))]) [0, 1, 2, 3, 4] (by decide) rfl
                have hK9 := hK.sub (tys' := [(c_wo, .int), (c_lu, .int), (c_fg, .int), (c_tm, .int)]) [0, 1, 2, 3] rfl
                exact W.iret (v := y_22280) hx hb hr (fun t ht hW => ⟨⟨y_22280, (), rfl, trivial, f_22283, f_18716, ha_f_22283, by rw [ht]; exact hP9, va_K.moved hW.alike hK9, hD9⟩, hS.F ht⟩) hS.2.2 dX10_same_203
              ·
                have n_c_23339 : (a3.toInt : Int) = 1 := c_eq rfl (by decide) c_23339
                have b_a3 : (1 : Int) ≤ a3.toInt ∧ a3.toInt ≤ 1 := r_eq1 b_a3 (by decide : (1 : Int) ≤ (1 : Int32).toInt ∧ (1 : Int32).toInt ≤ 1) n_c_23339 (by decide)
                refine lv_iload hx hb dX10_same_196 (lv_at hl 2 rfl) ?_
                refine lv_goto (tgt := 203) hx hb dX10_same_198 (by decide) ?_
                have hP9 := hP.sub (ws' := [(o0, .inr (8, [.int x_th, .ref mwo, .ref mim, .ref mhi, .ref mlu, .ref mtp, .int x_td, .ref mfv, .int x_sz, .int x_at, .int x_fr, .int x_to, .int x_va, .int x_fk, .int x_fp, .ref mfr, .ref mwt, .int x_wt, .int x_op, .int x_jo, .ref mfg, .ref mpl, .long x_dr, .ref mtm, .ref mfa, .ref mqu, .ref mmo, .ref mwy, .ref mwn, .ref mma, .ref mwi, .ref mnu, .ref mmv])), (mwo, .inl (c_wo, 1875, .inl w_wo)), (mlu, .inl (c_lu, 20000, .inl w_lu)), (mfg, .inl (c_fg, 12, .inl f_22283)), (mtm, .inl (c_tm, 16, .inl f_18716))]) [0, 1, 2, 3, 4] rfl
                have hD9 := hD.sub (ws' := [(o0, .inr (8, [.int x_th, .ref mwo, .ref mim, .ref mhi, .ref mlu, .ref mtp, .int x_td, .ref mfv, .int x_sz, .int x_at, .int x_fr, .int x_to, .int x_va, .int x_fk, .int x_fp, .ref mfr, .ref mwt, .int x_wt, .int x_op, .int x_jo, .ref mfg, .ref mpl, .long x_dr, .ref mtm, .ref mfa, .ref mqu, .ref mmo, .ref mwy, .ref mwn, .ref mma, .ref mwi, .ref mnu, .ref mmv])), (mwo, .inl (c_wo, 1875, .inl w_wo)), (mlu, .inl (c_lu, 20000, .inl w_lu)), (mfg, .inl (c_fg, 12, .inl f_22283)), (mtm, .inl (c_tm, 16, .inl f_18716))]) [0, 1, 2, 3, 4] (by decide) rfl
                have hK9 := hK.sub (tys' := [(c_wo, .int), (c_lu, .int), (c_fg, .int), (c_tm, .int)]) [0, 1, 2, 3] rfl
                exact W.iret (v := y_22281) hx hb hr (fun t ht hW => ⟨⟨y_22281, (), rfl, trivial, f_22283, f_18716, ha_f_22283, by rw [ht]; exact hP9, va_K.moved hW.alike hK9, hD9⟩, hS.F ht⟩) hS.2.2 dX10_same_203
            ·
              have n_c_23338 : (a3.toInt : Int) = 0 := c_eq rfl (by decide) c_23338
              have b_a3 : (0 : Int) ≤ a3.toInt ∧ a3.toInt ≤ 0 := r_eq1 b_a3 (by decide : (0 : Int) ≤ (0 : Int32).toInt ∧ (0 : Int32).toInt ≤ 0) n_c_23338 (by decide)
              refine lv_iload hx hb dX10_same_186 (lv_at hl 3 rfl) ?_
              refine lv_goto (tgt := 203) hx hb dX10_same_188 (by decide) ?_
              have hP9 := hP.sub (ws' := [(o0, .inr (8, [.int x_th, .ref mwo, .ref mim, .ref mhi, .ref mlu, .ref mtp, .int x_td, .ref mfv, .int x_sz, .int x_at, .int x_fr, .int x_to, .int x_va, .int x_fk, .int x_fp, .ref mfr, .ref mwt, .int x_wt, .int x_op, .int x_jo, .ref mfg, .ref mpl, .long x_dr, .ref mtm, .ref mfa, .ref mqu, .ref mmo, .ref mwy, .ref mwn, .ref mma, .ref mwi, .ref mnu, .ref mmv])), (mwo, .inl (c_wo, 1875, .inl w_wo)), (mlu, .inl (c_lu, 20000, .inl w_lu)), (mfg, .inl (c_fg, 12, .inl f_22283)), (mtm, .inl (c_tm, 16, .inl f_18716))]) [0, 1, 2, 3, 4] rfl
              have hD9 := hD.sub (ws' := [(o0, .inr (8, [.int x_th, .ref mwo, .ref mim, .ref mhi, .ref mlu, .ref mtp, .int x_td, .ref mfv, .int x_sz, .int x_at, .int x_fr, .int x_to, .int x_va, .int x_fk, .int x_fp, .ref mfr, .ref mwt, .int x_wt, .int x_op, .int x_jo, .ref mfg, .ref mpl, .long x_dr, .ref mtm, .ref mfa, .ref mqu, .ref mmo, .ref mwy, .ref mwn, .ref mma, .ref mwi, .ref mnu, .ref mmv])), (mwo, .inl (c_wo, 1875, .inl w_wo)), (mlu, .inl (c_lu, 20000, .inl w_lu)), (mfg, .inl (c_fg, 12, .inl f_22283)), (mtm, .inl (c_tm, 16, .inl f_18716))]) [0, 1, 2, 3, 4] (by decide) rfl
              have hK9 := hK.sub (tys' := [(c_wo, .int), (c_lu, .int), (c_fg, .int), (c_tm, .int)]) [0, 1, 2, 3] rfl
              exact W.iret (v := y_22282) hx hb hr (fun t ht hW => ⟨⟨y_22282, (), rfl, trivial, f_22283, f_18716, ha_f_22283, by rw [ht]; exact hP9, va_K.moved hW.alike hK9, hD9⟩, hS.F ht⟩) hS.2.2 dX10_same_203
          ·
            have n_c_23305 : (y_22279.toInt : Int) < tk.toInt := c_nge rfl rfl c_23305
            have b_y_22279 : (0 : Int) ≤ y_22279.toInt ∧ y_22279.toInt ≤ 19999 := r_lt1 b_y_22279 b_tk n_c_23305 (by decide)
            have b_tk : (1 : Int) ≤ tk.toInt ∧ tk.toInt ≤ 20000 := r_lt2 b_y_22279 b_tk n_c_23305 (by decide)
            refine lv_aload_n hx hb dX10_same_112 rfl (lv_at hl 4 rfl) ?_
            refine lv_iload hx hb dX10_same_113 (lv_at hl 0 rfl) ?_
            have hFc := va_free (wc := [(o0, .inr (8, [.int x_th, .ref mwo, .ref mim, .ref mhi, .ref mlu, .ref mtp, .int x_td, .ref mfv, .int x_sz, .int x_at, .int x_fr, .int x_to, .int x_va, .int x_fk, .int x_fp, .ref mfr, .ref mwt, .int x_wt, .int x_op, .int x_jo, .ref mfg, .ref mpl, .long x_dr, .ref mtm, .ref mfa, .ref mqu, .ref mmo, .ref mwy, .ref mwn, .ref mma, .ref mwi, .ref mnu, .ref mmv])), (mwo, .inl (c_wo, 1875, .inl w_wo)), (mfg, .inl (c_fg, 12, .inl f_22283))]) hD hS hA [0, 1, 3] rfl
            refine va_callv (va_runV (As := [.int y_22279]) (rest := []) ⟨hx, hb, hml, hown, hts⟩ (kX10_fillFigures l dC dI o0 x_th mwo mim mhi mlu mtp x_td mfv x_sz x_at x_fr x_to x_va x_fk x_fp mfr mwt x_wt x_op x_jo mfg mpl x_dr mtm mfa mqu mmo mwy mwn mma mwi mnu mmv c_wo c_fg w_wo f_22283 ln bs tk lw li y_22279 (H.size) b_ln b_bs (rg_w b_tk (by decide) (by decide)) b_lw b_y_22279 ha_f_22283 (hw0) (hw1) (hw2) (hw3) (hw4) (hwz)) (cwV 1 hts gX10_same__X10_fillFigures_V302 rfl rfl rfl (by decide +kernel) ⟨lel 1 3 rfl, lel 23 69 rfl⟩) ⟨hw_fb, va_recv hK hP (ci := 8) (q0 := 0) rfl rfl, (hw_use hP hD hK hN [0, 1, 3] rfl (by decide) rfl [0, 2] rfl)⟩ rfl rfl hl.1 rfl (lv_room (Nat.le_of_ble_eq_true rfl)) dX10_same_115 ⟨lel 0 0 rfl, lel 0 0 rfl⟩) hS (fun q _ h => hFc q h) hFc (fun u_23341 t H1 locs ht hvm hw_r_23340 hB hz1 hk1 hS => ?_)
            obtain ⟨o0_23342, ha_23343, hP1, hK1, hD1⟩ := hB
            rw [ht] at hP1
            have hK1 := va_K.moved hvm.symm hK1
            obtain ⟨hP, hD⟩ := va_join (wr := [(mlu, .inl (c_lu, 20000, .inl w_lu)), (mtm, .inl (c_tm, 16, .inl f_18716))]) (w1 := [(o0, .inr (8, [.int x_th, .ref mwo, .ref mim, .ref mhi, .ref mlu, .ref mtp, .int x_td, .ref mfv, .int x_sz, .int x_at, .int x_fr, .int x_to, .int x_va, .int x_fk, .int x_fp, .ref mfr, .ref mwt, .int x_wt, .int x_op, .int x_jo, .ref mfg, .ref mpl, .long x_dr, .ref mtm, .ref mfa, .ref mqu, .ref mmo, .ref mwy, .ref mwn, .ref mma, .ref mwi, .ref mnu, .ref mmv])), (mwo, .inl (c_wo, 1875, .inl w_wo)), (mfg, .inl (c_fg, 12, .inl o0_23342))]) hP hD [0, 1, 3] [2, 4] rfl rfl (by decide) (by decide) hk1 hFc hP1 hD1
            have hK := (hK.sub (tys' := [(c_lu, .int), (c_tm, .int)]) [1, 3] rfl).app hK1
            generalize H1 = H at hP hS ⊢
            have hP := hP.sub (ws' := [(o0, .inr (8, [.int x_th, .ref mwo, .ref mim, .ref mhi, .ref mlu, .ref mtp, .int x_td, .ref mfv, .int x_sz, .int x_at, .int x_fr, .int x_to, .int x_va, .int x_fk, .int x_fp, .ref mfr, .ref mwt, .int x_wt, .int x_op, .int x_jo, .ref mfg, .ref mpl, .long x_dr, .ref mtm, .ref mfa, .ref mqu, .ref mmo, .ref mwy, .ref mwn, .ref mma, .ref mwi, .ref mnu, .ref mmv])), (mwo, .inl (c_wo, 1875, .inl w_wo)), (mlu, .inl (c_lu, 20000, .inl w_lu)), (mfg, .inl (c_fg, 12, .inl o0_23342)), (mtm, .inl (c_tm, 16, .inl f_18716))]) [2, 3, 0, 4, 1] rfl
            have hD := hD.sub (ws' := [(o0, .inr (8, [.int x_th, .ref mwo, .ref mim, .ref mhi, .ref mlu, .ref mtp, .int x_td, .ref mfv, .int x_sz, .int x_at, .int x_fr, .int x_to, .int x_va, .int x_fk, .int x_fp, .ref mfr, .ref mwt, .int x_wt, .int x_op, .int x_jo, .ref mfg, .ref mpl, .long x_dr, .ref mtm, .ref mfa, .ref mqu, .ref mmo, .ref mwy, .ref mwn, .ref mma, .ref mwi, .ref mnu, .ref mmv])), (mwo, .inl (c_wo, 1875, .inl w_wo)), (mlu, .inl (c_lu, 20000, .inl w_lu)), (mfg, .inl (c_fg, 12, .inl o0_23342)), (mtm, .inl (c_tm, 16, .inl f_18716))]) [2, 3, 0, 4, 1] (by decide) rfl
            have hK := hK.sub (tys' := [(c_wo, .int), (c_lu, .int), (c_fg, .int), (c_tm, .int)]) [2, 0, 3, 1] rfl
            have hP : va_P (dC, dI) vwCl [(o0, .inr (8, [.int x_th, .ref mwo, .ref mim, .ref mhi, .ref mlu, .ref mtp, .int x_td, .ref mfv, .int x_sz, .int x_at, .int x_fr, .int x_to, .int x_va, .int x_fk, .int x_fp, .ref mfr, .ref mwt, .int x_wt, .int x_op, .int x_jo, .ref mfg, .ref mpl, .long x_dr, .ref mtm, .ref mfa, .ref mqu, .ref mmo, .ref mwy, .ref mwn, .ref mma, .ref mwi, .ref mnu, .ref mmv])), (mwo, .inl (c_wo, 1875, .inl w_wo)), (mlu, .inl (c_lu, 20000, .inl w_lu)), (mfg, .inl (c_fg, 12, .inl o0_23342)), (mtm, .inl (c_tm, 16, .inl f_18716))] H := hP
            have hD : va_D A [(o0, .inr (8, [.int x_th, .ref mwo, .ref mim, .ref mhi, .ref mlu, .ref mtp, .int x_td, .ref mfv, .int x_sz, .int x_at, .int x_fr, .int x_to, .int x_va, .int x_fk, .int x_fp, .ref mfr, .ref mwt, .int x_wt, .int x_op, .int x_jo, .ref mfg, .ref mpl, .long x_dr, .ref mtm, .ref mfa, .ref mqu, .ref mmo, .ref mwy, .ref mwn, .ref mma, .ref mwi, .ref mnu, .ref mmv])), (mwo, .inl (c_wo, 1875, .inl w_wo)), (mlu, .inl (c_lu, 20000, .inl w_lu)), (mfg, .inl (c_fg, 12, .inl o0_23342)), (mtm, .inl (c_tm, 16, .inl f_18716))] := hD
            have hK : va_K (dC, dI) vwCl [(c_wo, .int), (c_lu, .int), (c_fg, .int), (c_tm, .int)] s := hK
            refine lv_aload_n hx hb dX10_same_118 rfl (lv_at hl 4 rfl) ?_
            refine vp_callSi (W.runV (As := []) (rest := []) ⟨hx, hb, hml, hown, hts⟩ (kX10_isSame l dC dI o0 x_th mwo mim mhi mlu mtp x_td mfv x_sz x_at x_fr x_to x_va x_fk x_fp mfr mwt x_wt x_op x_jo mfg mpl x_dr mtm mfa mqu mmo mwy mwn mma mwi mnu mmv c_wo c_fg c_tm w_wo o0_23342 f_18716 ln bs tk lw li b_ln b_bs (rg_w b_tk (by decide) (by decide)) b_lw ha_23343 (hw0) (hw1) (hw2) (hw3) (hw4) (hwz)) (cwV 0 hts gX10_same__X10_isSame_V433 rfl rfl rfl (by decide +kernel) ⟨lel 1 3 rfl, lel 23 69 rfl⟩) ⟨pw_fb, va_recv hK hP (ci := 8) (q0 := 0) rfl rfl, (pw_use hP hK hN [0, 1, 3, 4] rfl [0, 2, 3] rfl)⟩ rfl rfl hl.1 rfl (lv_room (Nat.le_of_ble_eq_true rfl)) dX10_same_119 ⟨lel 0 0 rfl, lel 0 0 rfl⟩) (fun r_23344 h_r_23344 => ?_)
            have b_r_23344 := h_r_23344
            have b_r_23344 : (0 : Int) ≤ r_23344.toInt ∧ r_23344.toInt ≤ 1 := b_r_23344
            refine cutW (σ := Int32 × Int32 × Int32) (pc2 := 176) (st2 := fun v => []) (cells2 := 0) (slots2 := 0) (fun v H locs ls => ((-1 : Int) ≤ v.1.toInt ∧ v.1.toInt ≤ 19999) ∧ va_P (dC, dI) vwCl [(o0, .inr (8, [.int x_th, .ref mwo, .ref mim, .ref mhi, .ref mlu, .ref mtp, .int x_td, .ref mfv, .int x_sz, .int x_at, .int x_fr, .int x_to, .int x_va, .int x_fk, .int x_fp, .ref mfr, .ref mwt, .int x_wt, .int x_op, .int x_jo, .ref mfg, .ref mpl, .long x_dr, .ref mtm, .ref mfa, .ref mqu, .ref mmo, .ref mwy, .ref mwn, .ref mma, .ref mwi, .ref mnu, .ref mmv])), (mwo, .inl (c_wo, 1875, .inl w_wo)), (mlu, .inl (c_lu, 20000, .inl w_lu)), (mfg, .inl (c_fg, 12, .inl o0_23342)), (mtm, .inl (c_tm, 16, .inl f_18716))] H ∧ va_D A [(o0, .inr (8, [.int x_th, .ref mwo, .ref mim, .ref mhi, .ref mlu, .ref mtp, .int x_td, .ref mfv, .int x_sz, .int x_at, .int x_fr, .int x_to, .int x_va, .int x_fk, .int x_fp, .ref mfr, .ref mwt, .int x_wt, .int x_op, .int x_jo, .ref mfg, .ref mpl, .long x_dr, .ref mtm, .ref mfa, .ref mqu, .ref mmo, .ref mwy, .ref mwn, .ref mma, .ref mwi, .ref mnu, .ref mmv])), (mwo, .inl (c_wo, 1875, .inl w_wo)), (mlu, .inl (c_lu, 20000, .inl w_lu)), (mfg, .inl (c_fg, 12, .inl o0_23342)), (mtm, .inl (c_tm, 16, .inl f_18716))] ∧ va_S A s.heap H locs ∧ lv_has ls 8 [(6, .int v.1), (5, .int v.2.1), (4, .int v.2.2), (7, .int y_22279), (0, .ref o0), (1, .int a1), (2, .int a2), (3, .int a3)]) (fun v H locs ls hI => ?_) (fun hj_176_23359 => ?_)
            ·
              obtain ⟨y_23357, y_23358, y_23359⟩ := v
              obtain ⟨b_y_23357, hP, hD, hS, hl⟩ := hI
              have b_y_23357 : (-1 : Int) ≤ y_23357.toInt ∧ y_23357.toInt ≤ 19999 := b_y_23357
              have hP : va_P (dC, dI) vwCl [(o0, .inr (8, [.int x_th, .ref mwo, .ref mim, .ref mhi, .ref mlu, .ref mtp, .int x_td, .ref mfv, .int x_sz, .int x_at, .int x_fr, .int x_to, .int x_va, .int x_fk, .int x_fp, .ref mfr, .ref mwt, .int x_wt, .int x_op, .int x_jo, .ref mfg, .ref mpl, .long x_dr, .ref mtm, .ref mfa, .ref mqu, .ref mmo, .ref mwy, .ref mwn, .ref mma, .ref mwi, .ref mnu, .ref mmv])), (mwo, .inl (c_wo, 1875, .inl w_wo)), (mlu, .inl (c_lu, 20000, .inl w_lu)), (mfg, .inl (c_fg, 12, .inl o0_23342)), (mtm, .inl (c_tm, 16, .inl f_18716))] H := hP
              have hD : va_D A [(o0, .inr (8, [.int x_th, .ref mwo, .ref mim, .ref mhi, .ref mlu, .ref mtp, .int x_td, .ref mfv, .int x_sz, .int x_at, .int x_fr, .int x_to, .int x_va, .int x_fk, .int x_fp, .ref mfr, .ref mwt, .int x_wt, .int x_op, .int x_jo, .ref mfg, .ref mpl, .long x_dr, .ref mtm, .ref mfa, .ref mqu, .ref mmo, .ref mwy, .ref mwn, .ref mma, .ref mwi, .ref mnu, .ref mmv])), (mwo, .inl (c_wo, 1875, .inl w_wo)), (mlu, .inl (c_lu, 20000, .inl w_lu)), (mfg, .inl (c_fg, 12, .inl o0_23342)), (mtm, .inl (c_tm, 16, .inl f_18716))] := hD
              have hl : lv_has ls 8 [(6, .int y_23357), (5, .int y_23358), (4, .int y_23359), (7, .int y_22279), (0, .ref o0), (1, .int a1), (2, .int a2), (3, .int a3)] := hl
              obtain ⟨z_23360, e_z_23360⟩ : ∃ y : Int32, y = y_22279 + 1 := ⟨_, rfl⟩
              refine lv_iinc (v := z_23360) (lv' := [(7, .int z_23360), (6, .int y_23357), (5, .int y_23358), (4, .int y_23359), (0, .ref o0), (1, .int a1), (2, .int a2), (3, .int a3)]) hx hb dX10_same_176 hl (k := 3) rfl (by rw [e_z_23360]; rfl) (by decide) rfl (fun ls hl => ?_)
              obtain ⟨q_z_23360, b_z_23360⟩ := ti_add (lo := 1) (hi := 20000) e_z_23360 rfl (by decide : (1 : Int32).toInt = 1) b_y_22279 (by decide : (1 : Int) ≤ (1 : Int32).toInt ∧ (1 : Int32).toInt ≤ 1) (by decide)
              refine lv_goto (tgt := 101) hx hb dX10_same_179 (by decide) ?_
              exact ih_101_23303 (z_23360, y_23357, y_23358, y_23359, o0_23342) _ _ _ ⟨(show (0 : Int) ≤ z_23360.toInt ∧ z_23360.toInt ≤ 20000 from (rg_w b_z_23360 (by decide) (by decide))), (show (-1 : Int) ≤ y_23357.toInt ∧ y_23357.toInt ≤ 19999 from b_y_23357), (show rg o0_23342 12 0 15 from ha_23343), hP, hD, hS, lv_sub hl [0, 1, 2, 3, 4, 5, 6, 7] rfl⟩ (show (20000 - z_23360.toInt).toNat < (20000 - y_22279.toInt).toNat by omega)
            ·
              refine lv_if_ne (tgt := 128) hx hb dX10_same_122 (by decide) (fun c_23345 => ?_) (fun c_23345 => ?_)
              ·
                have n_c_23345 : (r_23344.toInt : Int) ≠ 0 := c_ne rfl (by decide) c_23345
                have b_r_23344 : (1 : Int) ≤ r_23344.toInt ∧ r_23344.toInt ≤ 1 := r_ne1 b_r_23344 (by decide : (0 : Int) ≤ (0 : Int32).toInt ∧ (0 : Int32).toInt ≤ 0) n_c_23345 (by decide)
                obtain ⟨z_23361, e_z_23361⟩ : ∃ y : Int32, y = y_22282 + 1 := ⟨_, rfl⟩
                refine lv_iinc (v := z_23361) (lv' := [(4, .int z_23361), (7, .int y_22279), (6, .int y_22280), (5, .int y_22281), (0, .ref o0), (1, .int a1), (2, .int a2), (3, .int a3)]) hx hb dX10_same_128 hl (k := 3) rfl (by rw [e_z_23361]; rfl) (by decide) rfl (fun ls hl => ?_)
                refine lv_iload hx hb dX10_same_131 (lv_at hl 3 rfl) ?_
                refine lv_aload_n hx hb dX10_same_133 rfl (lv_at hl 4 rfl) ?_
                refine lv_iload_n hx hb dX10_same_134 rfl (lv_at hl 5 rfl) ?_
                refine lv_iload hx hb dX10_same_135 (lv_at hl 1 rfl) ?_
                refine vp_callSi (W.runV (As := [.int a1, .int y_22279]) (rest := [.int y_22281]) ⟨hx, hb, hml, hown, hts⟩ (kX10_isLucky l dC dI o0 x_th mwo mim mhi mlu mtp x_td mfv x_sz x_at x_fr x_to x_va x_fk x_fp mfr mwt x_wt x_op x_jo mfg mpl x_dr mtm mfa mqu mmo mwy mwn mma mwi mnu mmv c_wo c_lu w_wo w_lu ln bs tk lw li a1 y_22279 b_ln b_bs (rg_w b_tk (by decide) (by decide)) b_lw b_y_22279 (hw0) (hw1) (hw2) (hw3) (hw4) (hwz)) (cwV 2 hts gX10_same__X10_isLucky_V316 rfl rfl rfl (by decide +kernel) ⟨lel 1 3 rfl, lel 22 69 rfl⟩) ⟨pw_fb, va_recv hK hP (ci := 8) (q0 := 0) rfl rfl, (pw_use hP hK hN [0, 1, 2] rfl [0, 1] rfl)⟩ rfl rfl hl.1 rfl (lv_room (Nat.le_of_ble_eq_true rfl)) dX10_same_137 ⟨lel 0 0 rfl, lel 0 0 rfl⟩) (fun r_23362 h_r_23362 => ?_)
                have b_r_23362 := h_r_23362
                have b_r_23362 : (0 : Int) ≤ r_23362.toInt ∧ r_23362.toInt ≤ 1 := b_r_23362
                refine cutW (σ := Int32) (pc2 := 148) (st2 := fun v => [.int v, .int y_22281]) (cells2 := 0) (slots2 := 0) (fun v H locs ls => ((0 : Int) ≤ v.toInt ∧ v.toInt ≤ 1) ∧ va_P (dC, dI) vwCl [(o0, .inr (8, [.int x_th, .ref mwo, .ref mim, .ref mhi, .ref mlu, .ref mtp, .int x_td, .ref mfv, .int x_sz, .int x_at, .int x_fr, .int x_to, .int x_va, .int x_fk, .int x_fp, .ref mfr, .ref mwt, .int x_wt, .int x_op, .int x_jo, .ref mfg, .ref mpl, .long x_dr, .ref mtm, .ref mfa, .ref mqu, .ref mmo, .ref mwy, .ref mwn, .ref mma, .ref mwi, .ref mnu, .ref mmv])), (mwo, .inl (c_wo, 1875, .inl w_wo)), (mlu, .inl (c_lu, 20000, .inl w_lu)), (mfg, .inl (c_fg, 12, .inl o0_23342)), (mtm, .inl (c_tm, 16, .inl f_18716))] H ∧ va_D A [(o0, .inr (8, [.int x_th, .ref mwo, .ref mim, .ref mhi, .ref mlu, .ref mtp, .int x_td, .ref mfv, .int x_sz, .int x_at, .int x_fr, .int x_to, .int x_va, .int x_fk, .int x_fp, .ref mfr, .ref mwt, .int x_wt, .int x_op, .int x_jo, .ref mfg, .ref mpl, .long x_dr, .ref mtm, .ref mfa, .ref mqu, .ref mmo, .ref mwy, .ref mwn, .ref mma, .ref mwi, .ref mnu, .ref mmv])), (mwo, .inl (c_wo, 1875, .inl w_wo)), (mlu, .inl (c_lu, 20000, .inl w_lu)), (mfg, .inl (c_fg, 12, .inl o0_23342)), (mtm, .inl (c_tm, 16, .inl f_18716))] ∧ va_S A s.heap H locs ∧ lv_has ls 8 [(4, .int z_23361), (7, .int y_22279), (6, .int y_22280), (5, .int y_22281), (0, .ref o0), (1, .int a1), (2, .int a2), (3, .int a3)]) (fun v H locs ls hI => ?_) (fun hj_148_23364 => ?_)
                ·
                  obtain ⟨y_23364, rfl⟩ : ∃ z, z = v := ⟨_, rfl⟩
                  obtain ⟨b_y_23364, hP, hD, hS, hl⟩ := hI
                  have b_y_23364 : (0 : Int) ≤ y_23364.toInt ∧ y_23364.toInt ≤ 1 := b_y_23364
                  have hP : va_P (dC, dI) vwCl [(o0, .inr (8, [.int x_th, .ref mwo, .ref mim, .ref mhi, .ref mlu, .ref mtp, .int x_td, .ref mfv, .int x_sz, .int x_at, .int x_fr, .int x_to, .int x_va, .int x_fk, .int x_fp, .ref mfr, .ref mwt, .int x_wt, .int x_op, .int x_jo, .ref mfg, .ref mpl, .long x_dr, .ref mtm, .ref mfa, .ref mqu, .ref mmo, .ref mwy, .ref mwn, .ref mma, .ref mwi, .ref mnu, .ref mmv])), (mwo, .inl (c_wo, 1875, .inl w_wo)), (mlu, .inl (c_lu, 20000, .inl w_lu)), (mfg, .inl (c_fg, 12, .inl o0_23342)), (mtm, .inl (c_tm, 16, .inl f_18716))] H := hP
                  have hD : va_D A [(o0, .inr (8, [.int x_th, .ref mwo, .ref mim, .ref mhi, .ref mlu, .ref mtp, .int x_td, .ref mfv, .int x_sz, .int x_at, .int x_fr, .int x_to, .int x_va, .int x_fk, .int x_fp, .ref mfr, .ref mwt, .int x_wt, .int x_op, .int x_jo, .ref mfg, .ref mpl, .long x_dr, .ref mtm, .ref mfa, .ref mqu, .ref mmo, .ref mwy, .ref mwn, .ref mma, .ref mwi, .ref mnu, .ref mmv])), (mwo, .inl (c_wo, 1875, .inl w_wo)), (mlu, .inl (c_lu, 20000, .inl w_lu)), (mfg, .inl (c_fg, 12, .inl o0_23342)), (mtm, .inl (c_tm, 16, .inl f_18716))] := hD
                  have hl : lv_has ls 8 [(4, .int z_23361), (7, .int y_22279), (6, .int y_22280), (5, .int y_22281), (0, .ref o0), (1, .int a1), (2, .int a2), (3, .int a3)] := hl
                  refine lv_iadd hx hb dX10_same_148 ?_
                  refine lv_topi (fun z_23365 e_z_23365 => ?_)
                  refine lv_istore (lv' := [(5, .int z_23365), (4, .int z_23361), (7, .int y_22279), (6, .int y_22280), (0, .ref o0), (1, .int a1), (2, .int a2), (3, .int a3)]) hx hb dX10_same_149 hl (by decide) rfl (fun ls hl => ?_)
                  refine lv_iload hx hb dX10_same_151 (lv_at hl 3 rfl) ?_
                  refine lv_iconst (v := (-1)) hx hb dX10_same_153 (by decide) ?_
                  refine cutW (σ := Int32) (pc2 := 174) (st2 := fun v => [.int v]) (cells2 := 0) (slots2 := 0) (fun v H locs ls => ((-1 : Int) ≤ v.toInt ∧ v.toInt ≤ 19999) ∧ va_P (dC, dI) vwCl [(o0, .inr (8, [.int x_th, .ref mwo, .ref mim, .ref mhi, .ref mlu, .ref mtp, .int x_td, .ref mfv, .int x_sz, .int x_at, .int x_fr, .int x_to, .int x_va, .int x_fk, .int x_fp, .ref mfr, .ref mwt, .int x_wt, .int x_op, .int x_jo, .ref mfg, .ref mpl, .long x_dr, .ref mtm, .ref mfa, .ref mqu, .ref mmo, .ref mwy, .ref mwn, .ref mma, .ref mwi, .ref mnu, .ref mmv])), (mwo, .inl (c_wo, 1875, .inl w_wo)), (mlu, .inl (c_lu, 20000, .inl w_lu)), (mfg, .inl (c_fg, 12, .inl o0_23342)), (mtm, .inl (c_tm, 16, .inl f_18716))] H ∧ va_D A [(o0, .inr (8, [.int x_th, .ref mwo, .ref mim, .ref mhi, .ref mlu, .ref mtp, .int x_td, .ref mfv, .int x_sz, .int x_at, .int x_fr, .int x_to, .int x_va, .int x_fk, .int x_fp, .ref mfr, .ref mwt, .int x_wt, .int x_op, .int x_jo, .ref mfg, .ref mpl, .long x_dr, .ref mtm, .ref mfa, .ref mqu, .ref mmo, .ref mwy, .ref mwn, .ref mma, .ref mwi, .ref mnu, .ref mmv])), (mwo, .inl (c_wo, 1875, .inl w_wo)), (mlu, .inl (c_lu, 20000, .inl w_lu)), (mfg, .inl (c_fg, 12, .inl o0_23342)), (mtm, .inl (c_tm, 16, .inl f_18716))] ∧ va_S A s.heap H locs ∧ lv_has ls 8 [(5, .int z_23365), (4, .int z_23361), (7, .int y_22279), (6, .int y_22280), (0, .ref o0), (1, .int a1), (2, .int a2), (3, .int a3)]) (fun v H locs ls hI => ?_) (fun hj_174_23369 => ?_)
                  ·
                    obtain ⟨y_23369, rfl⟩ : ∃ z, z = v := ⟨_, rfl⟩
                    obtain ⟨b_y_23369, hP, hD, hS, hl⟩ := hI
                    have b_y_23369 : (-1 : Int) ≤ y_23369.toInt ∧ y_23369.toInt ≤ 19999 := b_y_23369
                    have hP : va_P (dC, dI) vwCl [(o0, .inr (8, [.int x_th, .ref mwo, .ref mim, .ref mhi, .ref mlu, .ref mtp, .int x_td, .ref mfv, .int x_sz, .int x_at, .int x_fr, .int x_to, .int x_va, .int x_fk, .int x_fp, .ref mfr, .ref mwt, .int x_wt, .int x_op, .int x_jo, .ref mfg, .ref mpl, .long x_dr, .ref mtm, .ref mfa, .ref mqu, .ref mmo, .ref mwy, .ref mwn, .ref mma, .ref mwi, .ref mnu, .ref mmv])), (mwo, .inl (c_wo, 1875, .inl w_wo)), (mlu, .inl (c_lu, 20000, .inl w_lu)), (mfg, .inl (c_fg, 12, .inl o0_23342)), (mtm, .inl (c_tm, 16, .inl f_18716))] H := hP
                    have hD : va_D A [(o0, .inr (8, [.int x_th, .ref mwo, .ref mim, .ref mhi, .ref mlu, .ref mtp, .int x_td, .ref mfv, .int x_sz, .int x_at, .int x_fr, .int x_to, .int x_va, .int x_fk, .int x_fp, .ref mfr, .ref mwt, .int x_wt, .int x_op, .int x_jo, .ref mfg, .ref mpl, .long x_dr, .ref mtm, .ref mfa, .ref mqu, .ref mmo, .ref mwy, .ref mwn, .ref mma, .ref mwi, .ref mnu, .ref mmv])), (mwo, .inl (c_wo, 1875, .inl w_wo)), (mlu, .inl (c_lu, 20000, .inl w_lu)), (mfg, .inl (c_fg, 12, .inl o0_23342)), (mtm, .inl (c_tm, 16, .inl f_18716))] := hD
                    have hl : lv_has ls 8 [(5, .int z_23365), (4, .int z_23361), (7, .int y_22279), (6, .int y_22280), (0, .ref o0), (1, .int a1), (2, .int a2), (3, .int a3)] := hl
                    refine lv_istore (lv' := [(6, .int y_23369), (5, .int z_23365), (4, .int z_23361), (7, .int y_22279), (0, .ref o0), (1, .int a1), (2, .int a2), (3, .int a3)]) hx hb dX10_same_174 hl (by decide) rfl (fun ls hl => ?_)
                    exact hj_176_23359 (y_23369, z_23365, z_23361) _ _ _ ⟨(show (-1 : Int) ≤ y_23369.toInt ∧ y_23369.toInt ≤ 19999 from b_y_23369), hP, hD, hS, lv_sub hl [0, 1, 2, 3, 4, 5, 6, 7] rfl⟩
                  ·
                    refine lv_icmp_ne (tgt := 172) hx hb dX10_same_154 (by decide) (fun c_23366 => ?_) (fun c_23366 => ?_)
                    ·
                      have n_c_23366 : (y_22280.toInt : Int) ≠ (-1) := c_ne rfl (by decide) c_23366
                      have b_y_22280 : (0 : Int) ≤ y_22280.toInt ∧ y_22280.toInt ≤ 19999 := r_ne1 b_y_22280 (by decide : (-1 : Int) ≤ ((-1) : Int32).toInt ∧ ((-1) : Int32).toInt ≤ -1) n_c_23366 (by decide)
                      refine lv_iload hx hb dX10_same_172 (lv_at hl 3 rfl) ?_
                      exact hj_174_23369 y_22280 _ _ _ ⟨(show (-1 : Int) ≤ y_22280.toInt ∧ y_22280.toInt ≤ 19999 from (rg_w b_y_22280 (by decide) (by decide))), hP, hD, hS, lv_sub hl [0, 1, 2, 3, 4, 5, 6, 7] rfl⟩
                    ·
                      have n_c_23366 : (y_22280.toInt : Int) = (-1) := c_eq rfl (by decide) c_23366
                      have b_y_22280 : (-1 : Int) ≤ y_22280.toInt ∧ y_22280.toInt ≤ -1 := r_eq1 b_y_22280 (by decide : (-1 : Int) ≤ ((-1) : Int32).toInt ∧ ((-1) : Int32).toInt ≤ -1) n_c_23366 (by decide)
                      refine lv_aload_n hx hb dX10_same_157 rfl (lv_at hl 4 rfl) ?_
                      refine lv_iload_n hx hb dX10_same_158 rfl (lv_at hl 5 rfl) ?_
                      refine lv_iload hx hb dX10_same_159 (lv_at hl 2 rfl) ?_
                      refine vp_callSi (W.runV (As := [.int a1, .int y_22279]) (rest := []) ⟨hx, hb, hml, hown, hts⟩ (kX10_isLucky l dC dI o0 x_th mwo mim mhi mlu mtp x_td mfv x_sz x_at x_fr x_to x_va x_fk x_fp mfr mwt x_wt x_op x_jo mfg mpl x_dr mtm mfa mqu mmo mwy mwn mma mwi mnu mmv c_wo c_lu w_wo w_lu ln bs tk lw li a1 y_22279 b_ln b_bs (rg_w b_tk (by decide) (by decide)) b_lw b_y_22279 (hw0) (hw1) (hw2) (hw3) (hw4) (hwz)) (cwV 2 hts gX10_same__X10_isLucky_V316 rfl rfl rfl (by decide +kernel) ⟨lel 1 3 rfl, lel 22 69 rfl⟩) ⟨pw_fb, va_recv hK hP (ci := 8) (q0 := 0) rfl rfl, (pw_use hP hK hN [0, 1, 2] rfl [0, 1] rfl)⟩ rfl rfl hl.1 rfl (lv_room (Nat.le_of_ble_eq_true rfl)) dX10_same_161 ⟨lel 0 0 rfl, lel 0 0 rfl⟩) (fun r_23370 h_r_23370 => ?_)
                      have b_r_23370 := h_r_23370
                      have b_r_23370 : (0 : Int) ≤ r_23370.toInt ∧ r_23370.toInt ≤ 1 := b_r_23370
                      refine lv_if_eq (tgt := 172) hx hb dX10_same_164 (by decide) (fun c_23371 => ?_) (fun c_23371 => ?_)
                      ·
                        have n_c_23371 : (r_23370.toInt : Int) = 0 := c_eq rfl (by decide) c_23371
                        have b_r_23370 : (0 : Int) ≤ r_23370.toInt ∧ r_23370.toInt ≤ 0 := r_eq1 b_r_23370 (by decide : (0 : Int) ≤ (0 : Int32).toInt ∧ (0 : Int32).toInt ≤ 0) n_c_23371 (by decide)
                        refine lv_iload hx hb dX10_same_172 (lv_at hl 3 rfl) ?_
                        exact hj_174_23369 y_22280 _ _ _ ⟨(show (-1 : Int) ≤ y_22280.toInt ∧ y_22280.toInt ≤ 19999 from (rg_w b_y_22280 (by decide) (by decide))), hP, hD, hS, lv_sub hl [0, 1, 2, 3, 4, 5, 6, 7] rfl⟩
                      ·
                        have n_c_23371 : (r_23370.toInt : Int) ≠ 0 := c_ne rfl (by decide) c_23371
                        have b_r_23370 : (1 : Int) ≤ r_23370.toInt ∧ r_23370.toInt ≤ 1 := r_ne1 b_r_23370 (by decide : (0 : Int) ≤ (0 : Int32).toInt ∧ (0 : Int32).toInt ≤ 0) n_c_23371 (by decide)
                        refine lv_iload hx hb dX10_same_167 (lv_at hl 2 rfl) ?_
                        refine lv_goto (tgt := 174) hx hb dX10_same_169 (by decide) ?_
                        exact hj_174_23369 y_22279 _ _ _ ⟨(show (-1 : Int) ≤ y_22279.toInt ∧ y_22279.toInt ≤ 19999 from (rg_w b_y_22279 (by decide) (by decide))), hP, hD, hS, lv_sub hl [0, 1, 2, 3, 4, 5, 6, 7] rfl⟩
                ·
                  refine lv_if_eq (tgt := 147) hx hb dX10_same_140 (by decide) (fun c_23363 => ?_) (fun c_23363 => ?_)
                  ·
                    have n_c_23363 : (r_23362.toInt : Int) = 0 := c_eq rfl (by decide) c_23363
                    have b_r_23362 : (0 : Int) ≤ r_23362.toInt ∧ r_23362.toInt ≤ 0 := r_eq1 b_r_23362 (by decide : (0 : Int) ≤ (0 : Int32).toInt ∧ (0 : Int32).toInt ≤ 0) n_c_23363 (by decide)
                    refine lv_iconst (v := 0) hx hb dX10_same_147 (by decide) ?_
                    exact hj_148_23364 (0 : Int32) _ _ _ ⟨(show (0 : Int) ≤ (0 : Int32).toInt ∧ (0 : Int32).toInt ≤ 1 from (rg_w (by decide : (0 : Int) ≤ (0 : Int32).toInt ∧ (0 : Int32).toInt ≤ 0) (by decide) (by decide))), hP, hD, hS, lv_sub hl [0, 1, 2, 3, 4, 5, 6, 7] rfl⟩
                  ·
                    have n_c_23363 : (r_23362.toInt : Int) ≠ 0 := c_ne rfl (by decide) c_23363
                    have b_r_23362 : (1 : Int) ≤ r_23362.toInt ∧ r_23362.toInt ≤ 1 := r_ne1 b_r_23362 (by decide : (0 : Int) ≤ (0 : Int32).toInt ∧ (0 : Int32).toInt ≤ 0) n_c_23363 (by decide)
                    refine lv_iconst (v := 1) hx hb dX10_same_143 (by decide) ?_
                    refine lv_goto (tgt := 148) hx hb dX10_same_144 (by decide) ?_
                    exact hj_148_23364 (1 : Int32) _ _ _ ⟨(show (0 : Int) ≤ (1 : Int32).toInt ∧ (1 : Int32).toInt ≤ 1 from (rg_w (by decide : (1 : Int) ≤ (1 : Int32).toInt ∧ (1 : Int32).toInt ≤ 1) (by decide) (by decide))), hP, hD, hS, lv_sub hl [0, 1, 2, 3, 4, 5, 6, 7] rfl⟩
              ·
                have n_c_23345 : (r_23344.toInt : Int) = 0 := c_eq rfl (by decide) c_23345
                have b_r_23344 : (0 : Int) ≤ r_23344.toInt ∧ r_23344.toInt ≤ 0 := r_eq1 b_r_23344 (by decide : (0 : Int) ≤ (0 : Int32).toInt ∧ (0 : Int32).toInt ≤ 0) n_c_23345 (by decide)
                refine lv_goto (tgt := 176) hx hb dX10_same_125 (by decide) ?_
                exact hj_176_23359 (y_22280, y_22281, y_22282) _ _ _ ⟨(show (-1 : Int) ≤ y_22280.toInt ∧ y_22280.toInt ≤ 19999 from b_y_22280), hP, hD, hS, lv_sub hl [1, 2, 3, 0, 4, 5, 6, 7] rfl⟩
        ·
          have n_c_22213 : (y_18715.toInt : Int) < ln.toInt := c_nge rfl rfl c_22213
          have b_y_18715 : (0 : Int) ≤ y_18715.toInt ∧ y_18715.toInt ≤ 11 := r_lt1 b_y_18715 b_ln n_c_22213 (by decide)
          have b_ln : (1 : Int) ≤ ln.toInt ∧ ln.toInt ≤ 12 := r_lt2 b_y_18715 b_ln n_c_22213 (by decide)
          refine lv_aload_n hx hb dX10_same_67 rfl (lv_at hl 1 rfl) ?_
          refine va_get (D := (dC, dI)) (ci := 8) (v := .ref mtm) (C := RX10) (T := TX10) (N := 33) hx hb hts iX10_same_X10 hown hK hP 0 rfl rfl 23 (by decide) (hts (.fieldLink RX10 46 "LuckyTicketModel" "times" "[I") (List.mem_of_getElem? (i := 24) rfl)) (fun _ h9 => h9) rfl dX10_same_68 ?_
          refine lv_aload_n hx hb dX10_same_71 rfl (lv_at hl 1 rfl) ?_
          refine va_get (D := (dC, dI)) (ci := 8) (v := .ref mfg) (C := RX10) (T := TX10) (N := 33) hx hb hts iX10_same_X10 hown hK hP 0 rfl rfl 20 (by decide) (hts (.fieldLink RX10 40 "LuckyTicketModel" "figures" "[I") (List.mem_of_getElem? (i := 23) rfl)) (fun _ h9 => h9) rfl dX10_same_72 ?_
          refine lv_iload hx hb dX10_same_75 (lv_at hl 0 rfl) ?_
          refine va_iald hx hb hK hP 3 2 rfl rfl (vp_in_b b_y_18715 (by decide) (by decide)) dX10_same_77 ?_
          refine lv_topi (fun z_23372 e_z_23372 => ?_)
          have b_z_23372 : (0 : Int) ≤ z_23372.toInt ∧ z_23372.toInt ≤ 15 := rg_at ha_11700 (vp_in_b b_y_18715 (by decide) (by decide)) e_z_23372
          refine lv_dup2_11 hx hb dX10_same_78 rfl rfl ?_
          refine va_iald hx hb hK hP 4 3 rfl rfl (vp_in_b b_z_23372 (by decide) (by decide)) dX10_same_79 ?_
          refine lv_topi (fun z_23373 e_z_23373 => ?_)
          refine lv_iconst (v := 1) hx hb dX10_same_80 (by decide) ?_
          refine lv_iadd hx hb dX10_same_81 ?_
          refine lv_topi (fun z_23374 e_z_23374 => ?_)
          refine va_iast hx hb hK hP hD hS 4 3 rfl rfl (vp_in_b b_z_23372 (by decide) (by decide)) dX10_same_82 (fun H locs hP hD hS => ?_)
          have hP : va_P (dC, dI) vwCl [(o0, .inr (8, [.int x_th, .ref mwo, .ref mim, .ref mhi, .ref mlu, .ref mtp, .int x_td, .ref mfv, .int x_sz, .int x_at, .int x_fr, .int x_to, .int x_va, .int x_fk, .int x_fp, .ref mfr, .ref mwt, .int x_wt, .int x_op, .int x_jo, .ref mfg, .ref mpl, .long x_dr, .ref mtm, .ref mfa, .ref mqu, .ref mmo, .ref mwy, .ref mwn, .ref mma, .ref mwi, .ref mnu, .ref mmv])), (mwo, .inl (c_wo, 1875, .inl w_wo)), (mlu, .inl (c_lu, 20000, .inl w_lu)), (mfg, .inl (c_fg, 12, .inl o0_11699)), (mtm, .inl (c_tm, 16, .inl (upd f_18716 (z_23372 : Int32).toNatClampNeg z_23374)))] H := hP
          have hD : va_D A [(o0, .inr (8, [.int x_th, .ref mwo, .ref mim, .ref mhi, .ref mlu, .ref mtp, .int x_td, .ref mfv, .int x_sz, .int x_at, .int x_fr, .int x_to, .int x_va, .int x_fk, .int x_fp, .ref mfr, .ref mwt, .int x_wt, .int x_op, .int x_jo, .ref mfg, .ref mpl, .long x_dr, .ref mtm, .ref mfa, .ref mqu, .ref mmo, .ref mwy, .ref mwn, .ref mma, .ref mwi, .ref mnu, .ref mmv])), (mwo, .inl (c_wo, 1875, .inl w_wo)), (mlu, .inl (c_lu, 20000, .inl w_lu)), (mfg, .inl (c_fg, 12, .inl o0_11699)), (mtm, .inl (c_tm, 16, .inl (upd f_18716 (z_23372 : Int32).toNatClampNeg z_23374)))] := hD
          generalize (upd f_18716 (z_23372 : Int32).toNatClampNeg z_23374) = f_23375 at hP hD
          have hP : va_P (dC, dI) vwCl [(o0, .inr (8, [.int x_th, .ref mwo, .ref mim, .ref mhi, .ref mlu, .ref mtp, .int x_td, .ref mfv, .int x_sz, .int x_at, .int x_fr, .int x_to, .int x_va, .int x_fk, .int x_fp, .ref mfr, .ref mwt, .int x_wt, .int x_op, .int x_jo, .ref mfg, .ref mpl, .long x_dr, .ref mtm, .ref mfa, .ref mqu, .ref mmo, .ref mwy, .ref mwn, .ref mma, .ref mwi, .ref mnu, .ref mmv])), (mwo, .inl (c_wo, 1875, .inl w_wo)), (mlu, .inl (c_lu, 20000, .inl w_lu)), (mfg, .inl (c_fg, 12, .inl o0_11699)), (mtm, .inl (c_tm, 16, .inl f_23375))] H := hP
          have hD : va_D A [(o0, .inr (8, [.int x_th, .ref mwo, .ref mim, .ref mhi, .ref mlu, .ref mtp, .int x_td, .ref mfv, .int x_sz, .int x_at, .int x_fr, .int x_to, .int x_va, .int x_fk, .int x_fp, .ref mfr, .ref mwt, .int x_wt, .int x_op, .int x_jo, .ref mfg, .ref mpl, .long x_dr, .ref mtm, .ref mfa, .ref mqu, .ref mmo, .ref mwy, .ref mwn, .ref mma, .ref mwi, .ref mnu, .ref mmv])), (mwo, .inl (c_wo, 1875, .inl w_wo)), (mlu, .inl (c_lu, 20000, .inl w_lu)), (mfg, .inl (c_fg, 12, .inl o0_11699)), (mtm, .inl (c_tm, 16, .inl f_23375))] := hD
          obtain ⟨z_23376, e_z_23376⟩ : ∃ y : Int32, y = y_18715 + 1 := ⟨_, rfl⟩
          refine lv_iinc (v := z_23376) (lv' := [(4, .int z_23376), (0, .ref o0), (1, .int a1), (2, .int a2), (3, .int a3)]) hx hb dX10_same_83 hl (k := 0) rfl (by rw [e_z_23376]; rfl) (by decide) rfl (fun ls hl => ?_)
          obtain ⟨q_z_23376, b_z_23376⟩ := ti_add (lo := 1) (hi := 12) e_z_23376 rfl (by decide : (1 : Int32).toInt = 1) b_y_18715 (by decide : (1 : Int) ≤ (1 : Int32).toInt ∧ (1 : Int32).toInt ≤ 1) (by decide)
          refine lv_goto (tgt := 56) hx hb dX10_same_86 (by decide) ?_
          exact ih_56_22211 (z_23376, f_23375) _ _ _ ⟨(show (0 : Int) ≤ z_23376.toInt ∧ z_23376.toInt ≤ 12 from (rg_w b_z_23376 (by decide) (by decide))), hP, hD, hS, lv_sub hl [0, 1, 2, 3, 4] rfl⟩ (show (12 - z_23376.toInt).toNat < (12 - y_18715.toInt).toNat by omega)
      ·
        have n_c_17547 : (y_11704.toInt : Int) < 16 := c_nge rfl (by decide) c_17547
        have b_y_11704 : (0 : Int) ≤ y_11704.toInt ∧ y_11704.toInt ≤ 15 := r_lt1 b_y_11704 (by decide : (16 : Int) ≤ (16 : Int32).toInt ∧ (16 : Int32).toInt ≤ 16) n_c_17547 (by decide)
        refine lv_aload_n hx hb dX10_same_39 rfl (lv_at hl 1 rfl) ?_
        refine va_get (D := (dC, dI)) (ci := 8) (v := .ref mtm) (C := RX10) (T := TX10) (N := 33) hx hb hts iX10_same_X10 hown hK hP 0 rfl rfl 23 (by decide) (hts (.fieldLink RX10 46 "LuckyTicketModel" "times" "[I") (List.mem_of_getElem? (i := 24) rfl)) (fun _ h9 => h9) rfl dX10_same_40 ?_
        refine lv_iload hx hb dX10_same_43 (lv_at hl 0 rfl) ?_
        refine lv_iconst (v := 0) hx hb dX10_same_45 (by decide) ?_
        refine va_iast hx hb hK hP hD hS 4 3 rfl rfl (vp_in_b b_y_11704 (by decide) (by decide)) dX10_same_46 (fun H locs hP hD hS => ?_)
        have hP : va_P (dC, dI) vwCl [(o0, .inr (8, [.int x_th, .ref mwo, .ref mim, .ref mhi, .ref mlu, .ref mtp, .int x_td, .ref mfv, .int x_sz, .int x_at, .int x_fr, .int x_to, .int x_va, .int x_fk, .int x_fp, .ref mfr, .ref mwt, .int x_wt, .int x_op, .int x_jo, .ref mfg, .ref mpl, .long x_dr, .ref mtm, .ref mfa, .ref mqu, .ref mmo, .ref mwy, .ref mwn, .ref mma, .ref mwi, .ref mnu, .ref mmv])), (mwo, .inl (c_wo, 1875, .inl w_wo)), (mlu, .inl (c_lu, 20000, .inl w_lu)), (mfg, .inl (c_fg, 12, .inl o0_11699)), (mtm, .inl (c_tm, 16, .inl (upd f_11705 (y_11704 : Int32).toNatClampNeg 0)))] H := hP
        have hD : va_D A [(o0, .inr (8, [.int x_th, .ref mwo, .ref mim, .ref mhi, .ref mlu, .ref mtp, .int x_td, .ref mfv, .int x_sz, .int x_at, .int x_fr, .int x_to, .int x_va, .int x_fk, .int x_fp, .ref mfr, .ref mwt, .int x_wt, .int x_op, .int x_jo, .ref mfg, .ref mpl, .long x_dr, .ref mtm, .ref mfa, .ref mqu, .ref mmo, .ref mwy, .ref mwn, .ref mma, .ref mwi, .ref mnu, .ref mmv])), (mwo, .inl (c_wo, 1875, .inl w_wo)), (mlu, .inl (c_lu, 20000, .inl w_lu)), (mfg, .inl (c_fg, 12, .inl o0_11699)), (mtm, .inl (c_tm, 16, .inl (upd f_11705 (y_11704 : Int32).toNatClampNeg 0)))] := hD
        generalize (upd f_11705 (y_11704 : Int32).toNatClampNeg 0) = f_23377 at hP hD
        have hP : va_P (dC, dI) vwCl [(o0, .inr (8, [.int x_th, .ref mwo, .ref mim, .ref mhi, .ref mlu, .ref mtp, .int x_td, .ref mfv, .int x_sz, .int x_at, .int x_fr, .int x_to, .int x_va, .int x_fk, .int x_fp, .ref mfr, .ref mwt, .int x_wt, .int x_op, .int x_jo, .ref mfg, .ref mpl, .long x_dr, .ref mtm, .ref mfa, .ref mqu, .ref mmo, .ref mwy, .ref mwn, .ref mma, .ref mwi, .ref mnu, .ref mmv])), (mwo, .inl (c_wo, 1875, .inl w_wo)), (mlu, .inl (c_lu, 20000, .inl w_lu)), (mfg, .inl (c_fg, 12, .inl o0_11699)), (mtm, .inl (c_tm, 16, .inl f_23377))] H := hP
        have hD : va_D A [(o0, .inr (8, [.int x_th, .ref mwo, .ref mim, .ref mhi, .ref mlu, .ref mtp, .int x_td, .ref mfv, .int x_sz, .int x_at, .int x_fr, .int x_to, .int x_va, .int x_fk, .int x_fp, .ref mfr, .ref mwt, .int x_wt, .int x_op, .int x_jo, .ref mfg, .ref mpl, .long x_dr, .ref mtm, .ref mfa, .ref mqu, .ref mmo, .ref mwy, .ref mwn, .ref mma, .ref mwi, .ref mnu, .ref mmv])), (mwo, .inl (c_wo, 1875, .inl w_wo)), (mlu, .inl (c_lu, 20000, .inl w_lu)), (mfg, .inl (c_fg, 12, .inl o0_11699)), (mtm, .inl (c_tm, 16, .inl f_23377))] := hD
        obtain ⟨z_23378, e_z_23378⟩ : ∃ y : Int32, y = y_11704 + 1 := ⟨_, rfl⟩
        refine lv_iinc (v := z_23378) (lv' := [(4, .int z_23378), (0, .ref o0), (1, .int a1), (2, .int a2), (3, .int a3)]) hx hb dX10_same_47 hl (k := 0) rfl (by rw [e_z_23378]; rfl) (by decide) rfl (fun ls hl => ?_)
        obtain ⟨q_z_23378, b_z_23378⟩ := ti_add (lo := 1) (hi := 16) e_z_23378 rfl (by decide : (1 : Int32).toInt = 1) b_y_11704 (by decide : (1 : Int) ≤ (1 : Int32).toInt ∧ (1 : Int32).toInt ≤ 1) (by decide)
        refine lv_goto (tgt := 32) hx hb dX10_same_50 (by decide) ?_
        exact ih_32_17546 (z_23378, f_23377) _ _ _ ⟨(show (0 : Int) ≤ z_23378.toInt ∧ z_23378.toInt ≤ 16 from (rg_w b_z_23378 (by decide) (by decide))), hP, hD, hS, lv_sub hl [0, 1, 2, 3, 4] rfl⟩ (show (16 - z_23378.toInt).toNat < (16 - y_11704.toInt).toNat by omega)
    ·
      have n_c_11695 : (r_11694.toInt : Int) = 0 := c_eq rfl (by decide) c_11695
      have b_r_11694 : (0 : Int) ≤ r_11694.toInt ∧ r_11694.toInt ≤ 0 := r_eq1 b_r_11694 (by decide : (0 : Int) ≤ (0 : Int32).toInt ∧ (0 : Int32).toInt ≤ 0) n_c_11695 (by decide)
      refine lv_bipush (v := (-2)) hx hb dX10_same_21 (by decide) ?_
      have hP9 := hP.sub (ws' := [(o0, .inr (8, [.int x_th, .ref mwo, .ref mim, .ref mhi, .ref mlu, .ref mtp, .int x_td, .ref mfv, .int x_sz, .int x_at, .int x_fr, .int x_to, .int x_va, .int x_fk, .int x_fp, .ref mfr, .ref mwt, .int x_wt, .int x_op, .int x_jo, .ref mfg, .ref mpl, .long x_dr, .ref mtm, .ref mfa, .ref mqu, .ref mmo, .ref mwy, .ref mwn, .ref mma, .ref mwi, .ref mnu, .ref mmv])), (mwo, .inl (c_wo, 1875, .inl w_wo)), (mlu, .inl (c_lu, 20000, .inl w_lu)), (mfg, .inl (c_fg, 12, .inl w_fg)), (mtm, .inl (c_tm, 16, .inl w_tm))]) [0, 1, 2, 3, 4] rfl
      have hD9 := hD.sub (ws' := [(o0, .inr (8, [.int x_th, .ref mwo, .ref mim, .ref mhi, .ref mlu, .ref mtp, .int x_td, .ref mfv, .int x_sz, .int x_at, .int x_fr, .int x_to, .int x_va, .int x_fk, .int x_fp, .ref mfr, .ref mwt, .int x_wt, .int x_op, .int x_jo, .ref mfg, .ref mpl, .long x_dr, .ref mtm, .ref mfa, .ref mqu, .ref mmo, .ref mwy, .ref mwn, .ref mma, .ref mwi, .ref mnu, .ref mmv])), (mwo, .inl (c_wo, 1875, .inl w_wo)), (mlu, .inl (c_lu, 20000, .inl w_lu)), (mfg, .inl (c_fg, 12, .inl w_fg)), (mtm, .inl (c_tm, 16, .inl w_tm))]) [0, 1, 2, 3, 4] (by decide) rfl
      have hK9 := hK.sub (tys' := [(c_wo, .int), (c_lu, .int), (c_fg, .int), (c_tm, .int)]) [0, 1, 2, 3] rfl
      exact W.iret (v := (-2)) hx hb hr (fun t ht hW => ⟨⟨(-2), (), rfl, trivial, w_fg, w_tm, ha_mfg, by rw [ht]; exact hP9, va_K.moved hW.alike hK9, hD9⟩, hS.F ht⟩) hS.2.2 dX10_same_23
theorem dX10_nowhere_0 : decode cX10_nowhere 0 = .ok (.iconst 0, 1) := by decide +kernel
theorem dX10_nowhere_1 : decode cX10_nowhere 1 = .ok (.istore_n 1, 1) := by decide +kernel
theorem dX10_nowhere_2 : decode cX10_nowhere 2 = .ok (.iload_n 1, 1) := by decide +kernel
theorem dX10_nowhere_3 : decode cX10_nowhere 3 = .ok (.aload_n 0, 1) := by decide +kernel
theorem dX10_nowhere_4 : decode cX10_nowhere 4 = .ok (.getfield 9, 3) := by decide +kernel
theorem dX10_nowhere_7 : decode cX10_nowhere 7 = .ok (.iconst 2, 1) := by decide +kernel
theorem dX10_nowhere_8 : decode cX10_nowhere 8 = .ok (.iaload, 1) := by decide +kernel
theorem dX10_nowhere_9 : decode cX10_nowhere 9 = .ok (.if_icmp .ge 16, 3) := by decide +kernel
theorem dX10_nowhere_12 : decode cX10_nowhere 12 = .ok (.aload_n 0, 1) := by decide +kernel
theorem dX10_nowhere_13 : decode cX10_nowhere 13 = .ok (.getfield 49, 3) := by decide +kernel
theorem dX10_nowhere_16 : decode cX10_nowhere 16 = .ok (.iload_n 1, 1) := by decide +kernel
theorem dX10_nowhere_17 : decode cX10_nowhere 17 = .ok (.iconst (-1), 1) := by decide +kernel
theorem dX10_nowhere_18 : decode cX10_nowhere 18 = .ok (.iastore, 1) := by decide +kernel
theorem dX10_nowhere_19 : decode cX10_nowhere 19 = .ok (.iinc 1 1, 3) := by decide +kernel
theorem dX10_nowhere_22 : decode cX10_nowhere 22 = .ok (.goto (-20), 3) := by decide +kernel
theorem dX10_nowhere_25 : decode cX10_nowhere 25 = .ok (.return_, 1) := by decide +kernel
def uX10_nowhere : List Cond := .code yX10_nowhere cX10_nowhere 2 none :: ([.fieldLink RX10 9 "LuckyTicketModel" "world" "[I", .fieldLink RX10 49 "LuckyTicketModel" "far" "[I"] ++ wsX100)
theorem iX10_nowhere_X10 : ∀ w ∈ wsX100, w ∈ uX10_nowhere := fun _ h => List.mem_cons_of_mem _ (List.mem_append_right _ h)
set_option maxHeartbeats 4000000 in
set_option maxRecDepth 100000 in
theorem kX10_nowhere (l : Launch) (dC : Nat → ClassId) (dI : Nat → Nat → Nat) (o0 : Nat) (x_th : Int32) (mwo : Nat) (mim : Nat) (mhi : Nat) (mlu : Nat) (mtp : Nat) (x_td : Int32) (mfv : Nat) (x_sz : Int32) (x_at : Int32) (x_fr : Int32) (x_to : Int32) (x_va : Int32) (x_fk : Int32) (x_fp : Int32) (mfr : Nat) (mwt : Nat) (x_wt : Int32) (x_op : Int32) (x_jo : Int32) (mfg : Nat) (mpl : Nat) (x_dr : Int64) (mtm : Nat) (mfa : Nat) (mqu : Nat) (mmo : Nat) (mwy : Nat) (mwn : Nat) (mma : Nat) (mwi : Nat) (mnu : Nat) (mmv : Nat) (c_wo : ClassId) (c_fa : ClassId) (w_wo : Nat → Int32) (w_fa : Nat → Int32) (ln : Int32) (bs : Int32) (tk : Int32) (lw : Int32) (li : Int32) (sz : Nat) (b_ln : (0 : Int) ≤ ln.toInt ∧ ln.toInt ≤ 12) (b_bs : (0 : Int) ≤ bs.toInt ∧ bs.toInt ≤ 16) (b_tk : (0 : Int) ≤ tk.toInt ∧ tk.toInt ≤ 20000) (b_lw : (0 : Int) ≤ lw.toInt ∧ lw.toInt ≤ 9) (hw0 : w_wo 0 = ln) (hw1 : w_wo 1 = bs) (hw2 : w_wo 2 = tk) (hw3 : w_wo 3 = lw) (hw4 : w_wo 4 = li) (hwz : (ln.toInt = 0 ∧ bs.toInt = 0 ∧ tk.toInt = 0 ∧ lw.toInt = 0) ∨ (1 ≤ ln.toInt ∧ 2 ≤ bs.toInt ∧ 1 ≤ tk.toInt)) : Met l yX10_nowhere uX10_nowhere ({ frames := 0, cells := 0, slots := 0, locals := 0 }) (va_Pc [.ref o0] (hw (dC, dI) vwCl [(o0, .inr (8, [.int x_th, .ref mwo, .ref mim, .ref mhi, .ref mlu, .ref mtp, .int x_td, .ref mfv, .int x_sz, .int x_at, .int x_fr, .int x_to, .int x_va, .int x_fk, .int x_fp, .ref mfr, .ref mwt, .int x_wt, .int x_op, .int x_jo, .ref mfg, .ref mpl, .long x_dr, .ref mtm, .ref mfa, .ref mqu, .ref mmo, .ref mwy, .ref mwn, .ref mma, .ref mwi, .ref mnu, .ref mmv])), (mwo, .inl (c_wo, 1875, .inl w_wo)), (mfa, .inl (c_fa, 20000, .inl w_fa))] [(c_wo, .int), (c_fa, .int)] sz)) (va_Qv (fun (_ : Unit) => True) (fun (_ : Unit) t => ∃ (o0_ : Nat → Int32), va_P (dC, dI) vwCl [(o0, .inr (8, [.int x_th, .ref mwo, .ref mim, .ref mhi, .ref mlu, .ref mtp, .int x_td, .ref mfv, .int x_sz, .int x_at, .int x_fr, .int x_to, .int x_va, .int x_fk, .int x_fp, .ref mfr, .ref mwt, .int x_wt, .int x_op, .int x_jo, .ref mfg, .ref mpl, .long x_dr, .ref mtm, .ref mfa, .ref mqu, .ref mmo, .ref mwy, .ref mwn, .ref mma, .ref mwi, .ref mnu, .ref mmv])), (mwo, .inl (c_wo, 1875, .inl w_wo)), (mfa, .inl (c_fa, 20000, .inl o0_))] t.heap ∧ va_K (dC, dI) vwCl [(c_wo, .int), (c_fa, .int)] t ∧ va_D (va_A [(o0, .inr (8, [.int x_th, .ref mwo, .ref mim, .ref mhi, .ref mlu, .ref mtp, .int x_td, .ref mfv, .int x_sz, .int x_at, .int x_fr, .int x_to, .int x_va, .int x_fk, .int x_fp, .ref mfr, .ref mwt, .int x_wt, .int x_op, .int x_jo, .ref mfg, .ref mpl, .long x_dr, .ref mtm, .ref mfa, .ref mqu, .ref mmo, .ref mwy, .ref mwn, .ref mma, .ref mwi, .ref mnu, .ref mmv])), (mwo, .inl (c_wo, 1875, .inl w_wo)), (mfa, .inl (c_fa, 20000, .inl w_fa))] sz) [(o0, .inr (8, [.int x_th, .ref mwo, .ref mim, .ref mhi, .ref mlu, .ref mtp, .int x_td, .ref mfv, .int x_sz, .int x_at, .int x_fr, .int x_to, .int x_va, .int x_fk, .int x_fp, .ref mfr, .ref mwt, .int x_wt, .int x_op, .int x_jo, .ref mfg, .ref mpl, .long x_dr, .ref mtm, .ref mfa, .ref mqu, .ref mmo, .ref mwy, .ref mwn, .ref mma, .ref mwi, .ref mnu, .ref mmv])), (mwo, .inl (c_wo, 1875, .inl w_wo)), (mfa, .inl (c_fa, 20000, .inl o0_))]) (va_A [(o0, .inr (8, [.int x_th, .ref mwo, .ref mim, .ref mhi, .ref mlu, .ref mtp, .int x_td, .ref mfv, .int x_sz, .int x_at, .int x_fr, .int x_to, .int x_va, .int x_fk, .int x_fp, .ref mfr, .ref mwt, .int x_wt, .int x_op, .int x_jo, .ref mfg, .ref mpl, .long x_dr, .ref mtm, .ref mfa, .ref mqu, .ref mmo, .ref mwy, .ref mwn, .ref mma, .ref mwi, .ref mnu, .ref mmv])), (mwo, .inl (c_wo, 1875, .inl w_wo)), (mfa, .inl (c_fa, 20000, .inl w_fa))] sz)) 0 0 (va_A [(o0, .inr (8, [.int x_th, .ref mwo, .ref mim, .ref mhi, .ref mlu, .ref mtp, .int x_td, .ref mfv, .int x_sz, .int x_at, .int x_fr, .int x_to, .int x_va, .int x_fk, .int x_fp, .ref mfr, .ref mwt, .int x_wt, .int x_op, .int x_jo, .ref mfg, .ref mpl, .long x_dr, .ref mtm, .ref mfa, .ref mqu, .ref mmo, .ref mwy, .ref mwn, .ref mma, .ref mwi, .ref mnu, .ref mmv])), (mwo, .inl (c_wo, 1875, .inl w_wo)), (mfa, .inl (c_fa, 20000, .inl w_fa))] sz) := by
  refine Met.ofW (cc := cX10_nowhere) (maxL := 2) (ret := none) (by decide) rfl ?_
  intro p e s m args below meth c s₁ B hml hv
  obtain ⟨rfl, hsz, hP, hK, hD0, hN⟩ := hv
  have hx := B.exec
  have hb := B.bytes
  have hr := B.returns
  have hts := atoms_spec (ws := uX10_nowhere) B.pre
  have hown : s.vm.findClass RX10 = some m.cls := findClass_of_methodNamed B.named
  have hlocks := B.notSynchronized
  subst hsz
  have hD := hD0.self (sz := s.heap.size)
  generalize hAe : va_A [(o0, .inr (8, [.int x_th, .ref mwo, .ref mim, .ref mhi, .ref mlu, .ref mtp, .int x_td, .ref mfv, .int x_sz, .int x_at, .int x_fr, .int x_to, .int x_va, .int x_fk, .int x_fp, .ref mfr, .ref mwt, .int x_wt, .int x_op, .int x_jo, .ref mfg, .ref mpl, .long x_dr, .ref mtm, .ref mfa, .ref mqu, .ref mmo, .ref mwy, .ref mwn, .ref mma, .ref mwi, .ref mnu, .ref mmv])), (mwo, .inl (c_wo, 1875, .inl w_wo)), (mfa, .inl (c_fa, 20000, .inl w_fa))] s.heap.size = A at hD ⊢
  have hA : ∀ q : Nat, s.heap.size ≤ q → A q := fun q h => by rw [← hAe]; exact Or.inr h
  have hS : va_S A s.heap s.heap [] := va_S.rf
  have hP : va_P (dC, dI) vwCl [(o0, .inr (8, [.int x_th, .ref mwo, .ref mim, .ref mhi, .ref mlu, .ref mtp, .int x_td, .ref mfv, .int x_sz, .int x_at, .int x_fr, .int x_to, .int x_va, .int x_fk, .int x_fp, .ref mfr, .ref mwt, .int x_wt, .int x_op, .int x_jo, .ref mfg, .ref mpl, .long x_dr, .ref mtm, .ref mfa, .ref mqu, .ref mmo, .ref mwy, .ref mwn, .ref mma, .ref mwi, .ref mnu, .ref mmv])), (mwo, .inl (c_wo, 1875, .inl w_wo)), (mfa, .inl (c_fa, 20000, .inl w_fa))] s.heap := hP
  have hl := lv_entry ([.ref o0]) (n := 2) (Nat.le_of_ble_eq_true rfl)
  rw [lg_entry_eq]
  generalize (lg_sl ([.ref o0]) ++ List.replicate (2 - (lg_sl ([.ref o0])).length) Slot.unset).toArray = ls at hl ⊢
  have hl : lv_has ls 2 [(0, .ref o0)] := hl
  refine lv_iconst (v := 0) hx hb dX10_nowhere_0 (by decide) ?_
  refine lv_istore_n (lv' := [(1, .int 0), (0, .ref o0)]) hx hb dX10_nowhere_1 rfl hl (by decide) rfl (fun ls hl => ?_)
  refine loopW (σ := Int32 × (Nat → Int32)) (fun v => (20000 - v.1.toInt).toNat) (fun v H locs ls => ((0 : Int) ≤ v.1.toInt ∧ v.1.toInt ≤ 20000) ∧ va_P (dC, dI) vwCl [(o0, .inr (8, [.int x_th, .ref mwo, .ref mim, .ref mhi, .ref mlu, .ref mtp, .int x_td, .ref mfv, .int x_sz, .int x_at, .int x_fr, .int x_to, .int x_va, .int x_fk, .int x_fp, .ref mfr, .ref mwt, .int x_wt, .int x_op, .int x_jo, .ref mfg, .ref mpl, .long x_dr, .ref mtm, .ref mfa, .ref mqu, .ref mmo, .ref mwy, .ref mwn, .ref mma, .ref mwi, .ref mnu, .ref mmv])), (mwo, .inl (c_wo, 1875, .inl w_wo)), (mfa, .inl (c_fa, 20000, .inl v.2))] H ∧ va_D A [(o0, .inr (8, [.int x_th, .ref mwo, .ref mim, .ref mhi, .ref mlu, .ref mtp, .int x_td, .ref mfv, .int x_sz, .int x_at, .int x_fr, .int x_to, .int x_va, .int x_fk, .int x_fp, .ref mfr, .ref mwt, .int x_wt, .int x_op, .int x_jo, .ref mfg, .ref mpl, .long x_dr, .ref mtm, .ref mfa, .ref mqu, .ref mmo, .ref mwy, .ref mwn, .ref mma, .ref mwi, .ref mnu, .ref mmv])), (mwo, .inl (c_wo, 1875, .inl w_wo)), (mfa, .inl (c_fa, 20000, .inl v.2))] ∧ va_S A s.heap H locs ∧ lv_has ls 2 [(1, .int v.1), (0, .ref o0)]) (fun v H locs ls hI ih_2_104 => ?_) ((0 : Int32), w_fa) ⟨(show (0 : Int) ≤ (0 : Int32).toInt ∧ (0 : Int32).toInt ≤ 20000 from (rg_w (by decide : (0 : Int) ≤ (0 : Int32).toInt ∧ (0 : Int32).toInt ≤ 0) (by decide) (by decide))), hP, hD, hS, lv_sub hl [0, 1] rfl⟩
  obtain ⟨y_59, f_60⟩ := v
  obtain ⟨b_y_59, hP, hD, hS, hl⟩ := hI
  have b_y_59 : (0 : Int) ≤ y_59.toInt ∧ y_59.toInt ≤ 20000 := b_y_59
  have hP : va_P (dC, dI) vwCl [(o0, .inr (8, [.int x_th, .ref mwo, .ref mim, .ref mhi, .ref mlu, .ref mtp, .int x_td, .ref mfv, .int x_sz, .int x_at, .int x_fr, .int x_to, .int x_va, .int x_fk, .int x_fp, .ref mfr, .ref mwt, .int x_wt, .int x_op, .int x_jo, .ref mfg, .ref mpl, .long x_dr, .ref mtm, .ref mfa, .ref mqu, .ref mmo, .ref mwy, .ref mwn, .ref mma, .ref mwi, .ref mnu, .ref mmv])), (mwo, .inl (c_wo, 1875, .inl w_wo)), (mfa, .inl (c_fa, 20000, .inl f_60))] H := hP
  have hD : va_D A [(o0, .inr (8, [.int x_th, .ref mwo, .ref mim, .ref mhi, .ref mlu, .ref mtp, .int x_td, .ref mfv, .int x_sz, .int x_at, .int x_fr, .int x_to, .int x_va, .int x_fk, .int x_fp, .ref mfr, .ref mwt, .int x_wt, .int x_op, .int x_jo, .ref mfg, .ref mpl, .long x_dr, .ref mtm, .ref mfa, .ref mqu, .ref mmo, .ref mwy, .ref mwn, .ref mma, .ref mwi, .ref mnu, .ref mmv])), (mwo, .inl (c_wo, 1875, .inl w_wo)), (mfa, .inl (c_fa, 20000, .inl f_60))] := hD
  have hl : lv_has ls 2 [(1, .int y_59), (0, .ref o0)] := hl
  refine lv_iload_n hx hb dX10_nowhere_2 rfl (lv_at hl 0 rfl) ?_
  refine lv_aload_n hx hb dX10_nowhere_3 rfl (lv_at hl 1 rfl) ?_
  refine va_get (D := (dC, dI)) (ci := 8) (v := .ref mwo) (C := RX10) (T := TX10) (N := 33) hx hb hts iX10_nowhere_X10 hown hK hP 0 rfl rfl 1 (by decide) (hts (.fieldLink RX10 9 "LuckyTicketModel" "world" "[I") (List.mem_of_getElem? (i := 1) rfl)) (fun _ h9 => h9) rfl dX10_nowhere_4 ?_
  refine lv_iconst (v := 2) hx hb dX10_nowhere_7 (by decide) ?_
  refine va_iald hx hb hK hP 1 0 rfl rfl (vp_in_b (by decide : (2 : Int) ≤ (2 : Int32).toInt ∧ (2 : Int32).toInt ≤ 2) (by decide) (by decide)) dX10_nowhere_8 ?_
  refine lv_topi (fun z_105 e_z_105 => ?_)
  obtain rfl : z_105 = tk := e_z_105.trans hw2
  refine lv_icmp_ge (tgt := 25) hx hb dX10_nowhere_9 (by decide) (fun c_106 => ?_) (fun c_106 => ?_)
  ·
    have n_c_106 : (tk.toInt : Int) ≤ y_59.toInt := c_ge rfl rfl c_106
    have hP9 := hP.sub (ws' := [(o0, .inr (8, [.int x_th, .ref mwo, .ref mim, .ref mhi, .ref mlu, .ref mtp, .int x_td, .ref mfv, .int x_sz, .int x_at, .int x_fr, .int x_to, .int x_va, .int x_fk, .int x_fp, .ref mfr, .ref mwt, .int x_wt, .int x_op, .int x_jo, .ref mfg, .ref mpl, .long x_dr, .ref mtm, .ref mfa, .ref mqu, .ref mmo, .ref mwy, .ref mwn, .ref mma, .ref mwi, .ref mnu, .ref mmv])), (mwo, .inl (c_wo, 1875, .inl w_wo)), (mfa, .inl (c_fa, 20000, .inl f_60))]) [0, 1, 2] rfl
    have hD9 := hD.sub (ws' := [(o0, .inr (8, [.int x_th, .ref mwo, .ref mim, .ref mhi, .ref mlu, .ref mtp, .int x_td, .ref mfv, .int x_sz, .int x_at, .int x_fr, .int x_to, .int x_va, .int x_fk, .int x_fp, .ref mfr, .ref mwt, .int x_wt, .int x_op, .int x_jo, .ref mfg, .ref mpl, .long x_dr, .ref mtm, .ref mfa, .ref mqu, .ref mmo, .ref mwy, .ref mwn, .ref mma, .ref mwi, .ref mnu, .ref mmv])), (mwo, .inl (c_wo, 1875, .inl w_wo)), (mfa, .inl (c_fa, 20000, .inl f_60))]) [0, 1, 2] (by decide) rfl
    have hK9 := hK.sub (tys' := [(c_wo, .int), (c_fa, .int)]) [0, 1] rfl
    exact W.vret hx hb hr (fun t ht hW => ⟨⟨(), rfl, trivial, f_60, by rw [ht]; exact hP9, va_K.moved hW.alike hK9, hD9⟩, hS.F ht⟩) hS.2.2 dX10_nowhere_25
  ·
    have n_c_106 : (y_59.toInt : Int) < tk.toInt := c_nge rfl rfl c_106
    have b_y_59 : (0 : Int) ≤ y_59.toInt ∧ y_59.toInt ≤ 19999 := r_lt1 b_y_59 b_tk n_c_106 (by decide)
    have b_tk : (1 : Int) ≤ tk.toInt ∧ tk.toInt ≤ 20000 := r_lt2 b_y_59 b_tk n_c_106 (by decide)
    refine lv_aload_n hx hb dX10_nowhere_12 rfl (lv_at hl 1 rfl) ?_
    refine va_get (D := (dC, dI)) (ci := 8) (v := .ref mfa) (C := RX10) (T := TX10) (N := 33) hx hb hts iX10_nowhere_X10 hown hK hP 0 rfl rfl 24 (by decide) (hts (.fieldLink RX10 49 "LuckyTicketModel" "far" "[I") (List.mem_of_getElem? (i := 2) rfl)) (fun _ h9 => h9) rfl dX10_nowhere_13 ?_
    refine lv_iload_n hx hb dX10_nowhere_16 rfl (lv_at hl 0 rfl) ?_
    refine lv_iconst (v := (-1)) hx hb dX10_nowhere_17 (by decide) ?_
    refine va_iast hx hb hK hP hD hS 2 1 rfl rfl (vp_in_b b_y_59 (by decide) (by decide)) dX10_nowhere_18 (fun H locs hP hD hS => ?_)
    have hP : va_P (dC, dI) vwCl [(o0, .inr (8, [.int x_th, .ref mwo, .ref mim, .ref mhi, .ref mlu, .ref mtp, .int x_td, .ref mfv, .int x_sz, .int x_at, .int x_fr, .int x_to, .int x_va, .int x_fk, .int x_fp, .ref mfr, .ref mwt, .int x_wt, .int x_op, .int x_jo, .ref mfg, .ref mpl, .long x_dr, .ref mtm, .ref mfa, .ref mqu, .ref mmo, .ref mwy, .ref mwn, .ref mma, .ref mwi, .ref mnu, .ref mmv])), (mwo, .inl (c_wo, 1875, .inl w_wo)), (mfa, .inl (c_fa, 20000, .inl (upd f_60 (y_59 : Int32).toNatClampNeg (-1))))] H := hP
    have hD : va_D A [(o0, .inr (8, [.int x_th, .ref mwo, .ref mim, .ref mhi, .ref mlu, .ref mtp, .int x_td, .ref mfv, .int x_sz, .int x_at, .int x_fr, .int x_to, .int x_va, .int x_fk, .int x_fp, .ref mfr, .ref mwt, .int x_wt, .int x_op, .int x_jo, .ref mfg, .ref mpl, .long x_dr, .ref mtm, .ref mfa, .ref mqu, .ref mmo, .ref mwy, .ref mwn, .ref mma, .ref mwi, .ref mnu, .ref mmv])), (mwo, .inl (c_wo, 1875, .inl w_wo)), (mfa, .inl (c_fa, 20000, .inl (upd f_60 (y_59 : Int32).toNatClampNeg (-1))))] := hD
    generalize (upd f_60 (y_59 : Int32).toNatClampNeg (-1)) = f_107 at hP hD
    have hP : va_P (dC, dI) vwCl [(o0, .inr (8, [.int x_th, .ref mwo, .ref mim, .ref mhi, .ref mlu, .ref mtp, .int x_td, .ref mfv, .int x_sz, .int x_at, .int x_fr, .int x_to, .int x_va, .int x_fk, .int x_fp, .ref mfr, .ref mwt, .int x_wt, .int x_op, .int x_jo, .ref mfg, .ref mpl, .long x_dr, .ref mtm, .ref mfa, .ref mqu, .ref mmo, .ref mwy, .ref mwn, .ref mma, .ref mwi, .ref mnu, .ref mmv])), (mwo, .inl (c_wo, 1875, .inl w_wo)), (mfa, .inl (c_fa, 20000, .inl f_107))] H := hP
    have hD : va_D A [(o0, .inr (8, [.int x_th, .ref mwo, .ref mim, .ref mhi, .ref mlu, .ref mtp, .int x_td, .ref mfv, .int x_sz, .int x_at, .int x_fr, .int x_to, .int x_va, .int x_fk, .int x_fp, .ref mfr, .ref mwt, .int x_wt, .int x_op, .int x_jo, .ref mfg, .ref mpl, .long x_dr, .ref mtm, .ref mfa, .ref mqu, .ref mmo, .ref mwy, .ref mwn, .ref mma, .ref mwi, .ref mnu, .ref mmv])), (mwo, .inl (c_wo, 1875, .inl w_wo)), (mfa, .inl (c_fa, 20000, .inl f_107))] := hD
    obtain ⟨z_108, e_z_108⟩ : ∃ y : Int32, y = y_59 + 1 := ⟨_, rfl⟩
    refine lv_iinc (v := z_108) (lv' := [(1, .int z_108), (0, .ref o0)]) hx hb dX10_nowhere_19 hl (k := 0) rfl (by rw [e_z_108]; rfl) (by decide) rfl (fun ls hl => ?_)
    obtain ⟨q_z_108, b_z_108⟩ := ti_add (lo := 1) (hi := 20000) e_z_108 rfl (by decide : (1 : Int32).toInt = 1) b_y_59 (by decide : (1 : Int) ≤ (1 : Int32).toInt ∧ (1 : Int32).toInt ≤ 1) (by decide)
    refine lv_goto (tgt := 2) hx hb dX10_nowhere_22 (by decide) ?_
    exact ih_2_104 (z_108, f_107) _ _ _ ⟨(show (0 : Int) ≤ z_108.toInt ∧ z_108.toInt ≤ 20000 from (rg_w b_z_108 (by decide) (by decide))), hP, hD, hS, lv_sub hl [0, 1] rfl⟩ (show (20000 - z_108.toInt).toNat < (20000 - y_59.toInt).toNat by omega)
theorem dX10_feed_0 : decode cX10_feed 0 = .ok (.aload_n 0, 1) := by decide +kernel
theorem dX10_feed_1 : decode cX10_feed 1 = .ok (.getfield 97, 3) := by decide +kernel
theorem dX10_feed_4 : decode cX10_feed 4 = .ok (.bipush 20, 2) := by decide +kernel
theorem dX10_feed_6 : decode cX10_feed 6 = .ok (.iadd, 1) := by decide +kernel
theorem dX10_feed_7 : decode cX10_feed 7 = .ok (.sipush 1200, 3) := by decide +kernel
theorem dX10_feed_10 : decode cX10_feed 10 = .ok (.if_icmp .le 5, 3) := by decide +kernel
theorem dX10_feed_13 : decode cX10_feed 13 = .ok (.iconst (-1), 1) := by decide +kernel
theorem dX10_feed_14 : decode cX10_feed 14 = .ok (.ireturn, 1) := by decide +kernel
theorem dX10_feed_15 : decode cX10_feed 15 = .ok (.aload_n 0, 1) := by decide +kernel
theorem dX10_feed_16 : decode cX10_feed 16 = .ok (.getfield 27, 3) := by decide +kernel
theorem dX10_feed_19 : decode cX10_feed 19 = .ok (.iconst 0, 1) := by decide +kernel
theorem dX10_feed_20 : decode cX10_feed 20 = .ok (.iload_n 1, 1) := by decide +kernel
theorem dX10_feed_21 : decode cX10_feed 21 = .ok (.iastore, 1) := by decide +kernel
theorem dX10_feed_22 : decode cX10_feed 22 = .ok (.aload_n 0, 1) := by decide +kernel
theorem dX10_feed_23 : decode cX10_feed 23 = .ok (.getfield 27, 3) := by decide +kernel
theorem dX10_feed_26 : decode cX10_feed 26 = .ok (.iconst 1, 1) := by decide +kernel
theorem dX10_feed_27 : decode cX10_feed 27 = .ok (.iload_n 2, 1) := by decide +kernel
theorem dX10_feed_28 : decode cX10_feed 28 = .ok (.iastore, 1) := by decide +kernel
theorem dX10_feed_29 : decode cX10_feed 29 = .ok (.aload_n 0, 1) := by decide +kernel
theorem dX10_feed_30 : decode cX10_feed 30 = .ok (.getfield 27, 3) := by decide +kernel
theorem dX10_feed_33 : decode cX10_feed 33 = .ok (.iconst 2, 1) := by decide +kernel
theorem dX10_feed_34 : decode cX10_feed 34 = .ok (.iload_n 3, 1) := by decide +kernel
theorem dX10_feed_35 : decode cX10_feed 35 = .ok (.iastore, 1) := by decide +kernel
theorem dX10_feed_36 : decode cX10_feed 36 = .ok (.aload_n 0, 1) := by decide +kernel
theorem dX10_feed_37 : decode cX10_feed 37 = .ok (.getfield 27, 3) := by decide +kernel
theorem dX10_feed_40 : decode cX10_feed 40 = .ok (.iconst 3, 1) := by decide +kernel
theorem dX10_feed_41 : decode cX10_feed 41 = .ok (.iload 4, 2) := by decide +kernel
theorem dX10_feed_43 : decode cX10_feed 43 = .ok (.iastore, 1) := by decide +kernel
theorem dX10_feed_44 : decode cX10_feed 44 = .ok (.aload_n 0, 1) := by decide +kernel
theorem dX10_feed_45 : decode cX10_feed 45 = .ok (.getfield 27, 3) := by decide +kernel
theorem dX10_feed_48 : decode cX10_feed 48 = .ok (.iconst 4, 1) := by decide +kernel
theorem dX10_feed_49 : decode cX10_feed 49 = .ok (.iload 5, 2) := by decide +kernel
theorem dX10_feed_51 : decode cX10_feed 51 = .ok (.iastore, 1) := by decide +kernel
theorem dX10_feed_52 : decode cX10_feed 52 = .ok (.iconst 0, 1) := by decide +kernel
theorem dX10_feed_53 : decode cX10_feed 53 = .ok (.istore 6, 2) := by decide +kernel
theorem dX10_feed_55 : decode cX10_feed 55 = .ok (.iload 6, 2) := by decide +kernel
theorem dX10_feed_57 : decode cX10_feed 57 = .ok (.bipush 20, 2) := by decide +kernel
theorem dX10_feed_59 : decode cX10_feed 59 = .ok (.if_icmp .ge 42, 3) := by decide +kernel
theorem dX10_feed_62 : decode cX10_feed 62 = .ok (.aload_n 0, 1) := by decide +kernel
theorem dX10_feed_63 : decode cX10_feed 63 = .ok (.getfield 23, 3) := by decide +kernel
theorem dX10_feed_66 : decode cX10_feed 66 = .ok (.aload_n 0, 1) := by decide +kernel
theorem dX10_feed_67 : decode cX10_feed 67 = .ok (.getfield 97, 3) := by decide +kernel
theorem dX10_feed_70 : decode cX10_feed 70 = .ok (.iload 6, 2) := by decide +kernel
theorem dX10_feed_72 : decode cX10_feed 72 = .ok (.iadd, 1) := by decide +kernel
theorem dX10_feed_73 : decode cX10_feed 73 = .ok (.aload_n 0, 1) := by decide +kernel
theorem dX10_feed_74 : decode cX10_feed 74 = .ok (.getfield 27, 3) := by decide +kernel
theorem dX10_feed_77 : decode cX10_feed 77 = .ok (.iload 6, 2) := by decide +kernel
theorem dX10_feed_79 : decode cX10_feed 79 = .ok (.iconst 4, 1) := by decide +kernel
theorem dX10_feed_80 : decode cX10_feed 80 = .ok (.idiv, 1) := by decide +kernel
theorem dX10_feed_81 : decode cX10_feed 81 = .ok (.iaload, 1) := by decide +kernel
theorem dX10_feed_82 : decode cX10_feed 82 = .ok (.bipush 24, 2) := by decide +kernel
theorem dX10_feed_84 : decode cX10_feed 84 = .ok (.bipush 8, 2) := by decide +kernel
theorem dX10_feed_86 : decode cX10_feed 86 = .ok (.iload 6, 2) := by decide +kernel
theorem dX10_feed_88 : decode cX10_feed 88 = .ok (.iconst 4, 1) := by decide +kernel
theorem dX10_feed_89 : decode cX10_feed 89 = .ok (.irem, 1) := by decide +kernel
theorem dX10_feed_90 : decode cX10_feed 90 = .ok (.imul, 1) := by decide +kernel
theorem dX10_feed_91 : decode cX10_feed 91 = .ok (.isub, 1) := by decide +kernel
theorem dX10_feed_92 : decode cX10_feed 92 = .ok (.ishr, 1) := by decide +kernel
theorem dX10_feed_93 : decode cX10_feed 93 = .ok (.i2b, 1) := by decide +kernel
theorem dX10_feed_94 : decode cX10_feed 94 = .ok (.bastore, 1) := by decide +kernel
theorem dX10_feed_95 : decode cX10_feed 95 = .ok (.iinc 6 1, 3) := by decide +kernel
theorem dX10_feed_98 : decode cX10_feed 98 = .ok (.goto (-43), 3) := by decide +kernel
theorem dX10_feed_101 : decode cX10_feed 101 = .ok (.aload_n 0, 1) := by decide +kernel
theorem dX10_feed_102 : decode cX10_feed 102 = .ok (.dup, 1) := by decide +kernel
theorem dX10_feed_103 : decode cX10_feed 103 = .ok (.getfield 97, 3) := by decide +kernel
theorem dX10_feed_106 : decode cX10_feed 106 = .ok (.bipush 20, 2) := by decide +kernel
theorem dX10_feed_108 : decode cX10_feed 108 = .ok (.iadd, 1) := by decide +kernel
theorem dX10_feed_109 : decode cX10_feed 109 = .ok (.putfield 97, 3) := by decide +kernel
theorem dX10_feed_112 : decode cX10_feed 112 = .ok (.aload_n 0, 1) := by decide +kernel
theorem dX10_feed_113 : decode cX10_feed 113 = .ok (.getfield 97, 3) := by decide +kernel
theorem dX10_feed_116 : decode cX10_feed 116 = .ok (.ireturn, 1) := by decide +kernel
def uX10_feed : List Cond := .code yX10_feed cX10_feed 7 (some .int) :: ([.fieldLink RX10 97 "LuckyTicketModel" "taped" "I", .fieldLink RX10 27 "LuckyTicketModel" "five" "[I", .fieldLink RX10 23 "LuckyTicketModel" "tape" "[B"] ++ wsX100)
theorem iX10_feed_X10 : ∀ w ∈ wsX100, w ∈ uX10_feed := fun _ h => List.mem_cons_of_mem _ (List.mem_append_right _ h)
set_option maxHeartbeats 4000000 in
set_option maxRecDepth 100000 in
theorem kX10_feed (l : Launch) (dC : Nat → ClassId) (dI : Nat → Nat → Nat) (o0 : Nat) (x_th : Int32) (mwo : Nat) (mim : Nat) (mhi : Nat) (mlu : Nat) (mtp : Nat) (x_td : Int32) (mfv : Nat) (x_sz : Int32) (x_at : Int32) (x_fr : Int32) (x_to : Int32) (x_va : Int32) (x_fk : Int32) (x_fp : Int32) (mfr : Nat) (mwt : Nat) (x_wt : Int32) (x_op : Int32) (x_jo : Int32) (mfg : Nat) (mpl : Nat) (x_dr : Int64) (mtm : Nat) (mfa : Nat) (mqu : Nat) (mmo : Nat) (mwy : Nat) (mwn : Nat) (mma : Nat) (mwi : Nat) (mnu : Nat) (mmv : Nat) (c_tp : ClassId) (c_fv : ClassId) (w_tp : Nat → Int32) (w_fv : Nat → Int32) (a1 : Int32) (a2 : Int32) (a3 : Int32) (a4 : Int32) (a5 : Int32) (sz : Nat) (b_x_td : (0 : Int) ≤ x_td.toInt ∧ x_td.toInt ≤ 1200) : Met l yX10_feed uX10_feed ({ frames := 0, cells := 0, slots := 0, locals := 0 }) (va_Pc [.ref o0, .int a1, .int a2, .int a3, .int a4, .int a5] (hw (dC, dI) vwCl [(o0, .inr (8, [.int x_th, .ref mwo, .ref mim, .ref mhi, .ref mlu, .ref mtp, .int x_td, .ref mfv, .int x_sz, .int x_at, .int x_fr, .int x_to, .int x_va, .int x_fk, .int x_fp, .ref mfr, .ref mwt, .int x_wt, .int x_op, .int x_jo, .ref mfg, .ref mpl, .long x_dr, .ref mtm, .ref mfa, .ref mqu, .ref mmo, .ref mwy, .ref mwn, .ref mma, .ref mwi, .ref mnu, .ref mmv])), (mtp, .inl (c_tp, 1200, .inl w_tp)), (mfv, .inl (c_fv, 5, .inl w_fv))] [(c_tp, .byte), (c_fv, .int)] sz)) (va_Qi (fun (r : Int32) (_ : Unit) => ((-1 : Int) ≤ r.toInt ∧ r.toInt ≤ 1200)) (fun (_ : Unit) t => ∃ (o0_ : Int32) (o1_ : Nat → Int32) (o2_ : Nat → Int32), ((20 : Int) ≤ o0_.toInt ∧ o0_.toInt ≤ 1200) ∧ va_P (dC, dI) vwCl [(o0, .inr (8, [.int x_th, .ref mwo, .ref mim, .ref mhi, .ref mlu, .ref mtp, .int o0_, .ref mfv, .int x_sz, .int x_at, .int x_fr, .int x_to, .int x_va, .int x_fk, .int x_fp, .ref mfr, .ref mwt, .int x_wt, .int x_op, .int x_jo, .ref mfg, .ref mpl, .long x_dr, .ref mtm, .ref mfa, .ref mqu, .ref mmo, .ref mwy, .ref mwn, .ref mma, .ref mwi, .ref mnu, .ref mmv])), (mtp, .inl (c_tp, 1200, .inl o1_)), (mfv, .inl (c_fv, 5, .inl o2_))] t.heap ∧ va_K (dC, dI) vwCl [(c_tp, .byte), (c_fv, .int)] t ∧ va_D (va_A [(o0, .inr (8, [.int x_th, .ref mwo, .ref mim, .ref mhi, .ref mlu, .ref mtp, .int x_td, .ref mfv, .int x_sz, .int x_at, .int x_fr, .int x_to, .int x_va, .int x_fk, .int x_fp, .ref mfr, .ref mwt, .int x_wt, .int x_op, .int x_jo, .ref mfg, .ref mpl, .long x_dr, .ref mtm, .ref mfa, .ref mqu, .ref mmo, .ref mwy, .ref mwn, .ref mma, .ref mwi, .ref mnu, .ref mmv])), (mtp, .inl (c_tp, 1200, .inl w_tp)), (mfv, .inl (c_fv, 5, .inl w_fv))] sz) [(o0, .inr (8, [.int x_th, .ref mwo, .ref mim, .ref mhi, .ref mlu, .ref mtp, .int o0_, .ref mfv, .int x_sz, .int x_at, .int x_fr, .int x_to, .int x_va, .int x_fk, .int x_fp, .ref mfr, .ref mwt, .int x_wt, .int x_op, .int x_jo, .ref mfg, .ref mpl, .long x_dr, .ref mtm, .ref mfa, .ref mqu, .ref mmo, .ref mwy, .ref mwn, .ref mma, .ref mwi, .ref mnu, .ref mmv])), (mtp, .inl (c_tp, 1200, .inl o1_)), (mfv, .inl (c_fv, 5, .inl o2_))]) (va_A [(o0, .inr (8, [.int x_th, .ref mwo, .ref mim, .ref mhi, .ref mlu, .ref mtp, .int x_td, .ref mfv, .int x_sz, .int x_at, .int x_fr, .int x_to, .int x_va, .int x_fk, .int x_fp, .ref mfr, .ref mwt, .int x_wt, .int x_op, .int x_jo, .ref mfg, .ref mpl, .long x_dr, .ref mtm, .ref mfa, .ref mqu, .ref mmo, .ref mwy, .ref mwn, .ref mma, .ref mwi, .ref mnu, .ref mmv])), (mtp, .inl (c_tp, 1200, .inl w_tp)), (mfv, .inl (c_fv, 5, .inl w_fv))] sz)) 0 0 (va_A [(o0, .inr (8, [.int x_th, .ref mwo, .ref mim, .ref mhi, .ref mlu, .ref mtp, .int x_td, .ref mfv, .int x_sz, .int x_at, .int x_fr, .int x_to, .int x_va, .int x_fk, .int x_fp, .ref mfr, .ref mwt, .int x_wt, .int x_op, .int x_jo, .ref mfg, .ref mpl, .long x_dr, .ref mtm, .ref mfa, .ref mqu, .ref mmo, .ref mwy, .ref mwn, .ref mma, .ref mwi, .ref mnu, .ref mmv])), (mtp, .inl (c_tp, 1200, .inl w_tp)), (mfv, .inl (c_fv, 5, .inl w_fv))] sz) := by
  refine Met.ofW (cc := cX10_feed) (maxL := 7) (ret := (some .int)) (by decide) rfl ?_
  intro p e s m args below meth c s₁ B hml hv
  obtain ⟨rfl, hsz, hP, hK, hD0, hN⟩ := hv
  have hx := B.exec
  have hb := B.bytes
  have hr := B.returns
  have hts := atoms_spec (ws := uX10_feed) B.pre
  have hown : s.vm.findClass RX10 = some m.cls := findClass_of_methodNamed B.named
  have hlocks := B.notSynchronized
  subst hsz
  have hD := hD0.self (sz := s.heap.size)
  generalize hAe : va_A [(o0, .inr (8, [.int x_th, .ref mwo, .ref mim, .ref mhi, .ref mlu, .ref mtp, .int x_td, .ref mfv, .int x_sz, .int x_at, .int x_fr, .int x_to, .int x_va, .int x_fk, .int x_fp, .ref mfr, .ref mwt, .int x_wt, .int x_op, .int x_jo, .ref mfg, .ref mpl, .long x_dr, .ref mtm, .ref mfa, .ref mqu, .ref mmo, .ref mwy, .ref mwn, .ref mma, .ref mwi, .ref mnu, .ref mmv])), (mtp, .inl (c_tp, 1200, .inl w_tp)), (mfv, .inl (c_fv, 5, .inl w_fv))] s.heap.size = A at hD ⊢
  have hA : ∀ q : Nat, s.heap.size ≤ q → A q := fun q h => by rw [← hAe]; exact Or.inr h
  have hS : va_S A s.heap s.heap [] := va_S.rf
  have hP : va_P (dC, dI) vwCl [(o0, .inr (8, [.int x_th, .ref mwo, .ref mim, .ref mhi, .ref mlu, .ref mtp, .int x_td, .ref mfv, .int x_sz, .int x_at, .int x_fr, .int x_to, .int x_va, .int x_fk, .int x_fp, .ref mfr, .ref mwt, .int x_wt, .int x_op, .int x_jo, .ref mfg, .ref mpl, .long x_dr, .ref mtm, .ref mfa, .ref mqu, .ref mmo, .ref mwy, .ref mwn, .ref mma, .ref mwi, .ref mnu, .ref mmv])), (mtp, .inl (c_tp, 1200, .inl w_tp)), (mfv, .inl (c_fv, 5, .inl w_fv))] s.heap := hP
  have hl := lv_entry ([.ref o0, .int a1, .int a2, .int a3, .int a4, .int a5]) (n := 7) (Nat.le_of_ble_eq_true rfl)
  rw [lg_entry_eq]
  generalize (lg_sl ([.ref o0, .int a1, .int a2, .int a3, .int a4, .int a5]) ++ List.replicate (7 - (lg_sl ([.ref o0, .int a1, .int a2, .int a3, .int a4, .int a5])).length) Slot.unset).toArray = ls at hl ⊢
  have hl : lv_has ls 7 [(0, .ref o0), (1, .int a1), (2, .int a2), (3, .int a3), (4, .int a4), (5, .int a5)] := hl
  refine lv_aload_n hx hb dX10_feed_0 rfl (lv_at hl 0 rfl) ?_
  refine va_get (D := (dC, dI)) (ci := 8) (v := .int x_td) (C := RX10) (T := TX10) (N := 33) hx hb hts iX10_feed_X10 hown hK hP 0 rfl rfl 6 (by decide) (hts (.fieldLink RX10 97 "LuckyTicketModel" "taped" "I") (List.mem_of_getElem? (i := 1) rfl)) (fun _ h9 => h9) rfl dX10_feed_1 ?_
  refine lv_bipush (v := 20) hx hb dX10_feed_4 (by decide) ?_
  refine lv_iadd hx hb dX10_feed_6 ?_
  refine lv_topi (fun z_131 e_z_131 => ?_)
  obtain ⟨q_z_131, b_z_131⟩ := ti_add (lo := 20) (hi := 1220) e_z_131 rfl (by decide : (20 : Int32).toInt = 20) b_x_td (by decide : (20 : Int) ≤ (20 : Int32).toInt ∧ (20 : Int32).toInt ≤ 20) (by decide)
  refine lv_sipush (v := 1200) hx hb dX10_feed_7 (by decide) ?_
  refine lv_icmp_le (tgt := 15) hx hb dX10_feed_10 (by decide) (fun c_132 => ?_) (fun c_132 => ?_)
  ·
    have n_c_132 : (z_131.toInt : Int) ≤ 1200 := c_le rfl (by decide) c_132
    have b_z_131 : (20 : Int) ≤ z_131.toInt ∧ z_131.toInt ≤ 1200 := r_le1 b_z_131 (by decide : (1200 : Int) ≤ (1200 : Int32).toInt ∧ (1200 : Int32).toInt ≤ 1200) n_c_132 (by decide)
    have b_x_td : (0 : Int) ≤ x_td.toInt ∧ x_td.toInt ≤ 1180 := by
      have q0 := b_z_131; have q1 := q_z_131; have q2 := b_x_td; have q3 := (by decide : (20 : Int) ≤ (20 : Int32).toInt ∧ (20 : Int32).toInt ≤ 20); omega
    refine lv_aload_n hx hb dX10_feed_15 rfl (lv_at hl 0 rfl) ?_
    refine va_get (D := (dC, dI)) (ci := 8) (v := .ref mfv) (C := RX10) (T := TX10) (N := 33) hx hb hts iX10_feed_X10 hown hK hP 0 rfl rfl 7 (by decide) (hts (.fieldLink RX10 27 "LuckyTicketModel" "five" "[I") (List.mem_of_getElem? (i := 2) rfl)) (fun _ h9 => h9) rfl dX10_feed_16 ?_
    refine lv_iconst (v := 0) hx hb dX10_feed_19 (by decide) ?_
    refine lv_iload_n hx hb dX10_feed_20 rfl (lv_at hl 1 rfl) ?_
    refine va_iast hx hb hK hP hD hS 2 1 rfl rfl (vp_in_b (by decide : (0 : Int) ≤ (0 : Int32).toInt ∧ (0 : Int32).toInt ≤ 0) (by decide) (by decide)) dX10_feed_21 (fun H locs hP hD hS => ?_)
    have hP : va_P (dC, dI) vwCl [(o0, .inr (8, [.int x_th, .ref mwo, .ref mim, .ref mhi, .ref mlu, .ref mtp, .int x_td, .ref mfv, .int x_sz, .int x_at, .int x_fr, .int x_to, .int x_va, .int x_fk, .int x_fp, .ref mfr, .ref mwt, .int x_wt, .int x_op, .int x_jo, .ref mfg, .ref mpl, .long x_dr, .ref mtm, .ref mfa, .ref mqu, .ref mmo, .ref mwy, .ref mwn, .ref mma, .ref mwi, .ref mnu, .ref mmv])), (mtp, .inl (c_tp, 1200, .inl w_tp)), (mfv, .inl (c_fv, 5, .inl (upd w_fv (0 : Int32).toNatClampNeg a1)))] H := hP
    have hD : va_D A [(o0, .inr (8, [.int x_th, .ref mwo, .ref mim, .ref mhi, .ref mlu, .ref mtp, .int x_td, .ref mfv, .int x_sz, .int x_at, .int x_fr, .int x_to, .int x_va, .int x_fk, .int x_fp, .ref mfr, .ref mwt, .int x_wt, .int x_op, .int x_jo, .ref mfg, .ref mpl, .long x_dr, .ref mtm, .ref mfa, .ref mqu, .ref mmo, .ref mwy, .ref mwn, .ref mma, .ref mwi, .ref mnu, .ref mmv])), (mtp, .inl (c_tp, 1200, .inl w_tp)), (mfv, .inl (c_fv, 5, .inl (upd w_fv (0 : Int32).toNatClampNeg a1)))] := hD
    generalize (upd w_fv (0 : Int32).toNatClampNeg a1) = f_133 at hP hD
    have hP : va_P (dC, dI) vwCl [(o0, .inr (8, [.int x_th, .ref mwo, .ref mim, .ref mhi, .ref mlu, .ref mtp, .int x_td, .ref mfv, .int x_sz, .int x_at, .int x_fr, .int x_to, .int x_va, .int x_fk, .int x_fp, .ref mfr, .ref mwt, .int x_wt, .int x_op, .int x_jo, .ref mfg, .ref mpl, .long x_dr, .ref mtm, .ref mfa, .ref mqu, .ref mmo, .ref mwy, .ref mwn, .ref mma, .ref mwi, .ref mnu, .ref mmv])), (mtp, .inl (c_tp, 1200, .inl w_tp)), (mfv, .inl (c_fv, 5, .inl f_133))] H := hP
    have hD : va_D A [(o0, .inr (8, [.int x_th, .ref mwo, .ref mim, .ref mhi, .ref mlu, .ref mtp, .int x_td, .ref mfv, .int x_sz, .int x_at, .int x_fr, .int x_to, .int x_va, .int x_fk, .int x_fp, .ref mfr, .ref mwt, .int x_wt, .int x_op, .int x_jo, .ref mfg, .ref mpl, .long x_dr, .ref mtm, .ref mfa, .ref mqu, .ref mmo, .ref mwy, .ref mwn, .ref mma, .ref mwi, .ref mnu, .ref mmv])), (mtp, .inl (c_tp, 1200, .inl w_tp)), (mfv, .inl (c_fv, 5, .inl f_133))] := hD
    refine lv_aload_n hx hb dX10_feed_22 rfl (lv_at hl 0 rfl) ?_
    refine va_get (D := (dC, dI)) (ci := 8) (v := .ref mfv) (C := RX10) (T := TX10) (N := 33) hx hb hts iX10_feed_X10 hown hK hP 0 rfl rfl 7 (by decide) (hts (.fieldLink RX10 27 "LuckyTicketModel" "five" "[I") (List.mem_of_getElem? (i := 2) rfl)) (fun _ h9 => h9) rfl dX10_feed_23 ?_
    refine lv_iconst (v := 1) hx hb dX10_feed_26 (by decide) ?_
    refine lv_iload_n hx hb dX10_feed_27 rfl (lv_at hl 2 rfl) ?_
    refine va_iast hx hb hK hP hD hS 2 1 rfl rfl (vp_in_b (by decide : (1 : Int) ≤ (1 : Int32).toInt ∧ (1 : Int32).toInt ≤ 1) (by decide) (by decide)) dX10_feed_28 (fun H locs hP hD hS => ?_)
    have hP : va_P (dC, dI) vwCl [(o0, .inr (8, [.int x_th, .ref mwo, .ref mim, .ref mhi, .ref mlu, .ref mtp, .int x_td, .ref mfv, .int x_sz, .int x_at, .int x_fr, .int x_to, .int x_va, .int x_fk, .int x_fp, .ref mfr, .ref mwt, .int x_wt, .int x_op, .int x_jo, .ref mfg, .ref mpl, .long x_dr, .ref mtm, .ref mfa, .ref mqu, .ref mmo, .ref mwy, .ref mwn, .ref mma, .ref mwi, .ref mnu, .ref mmv])), (mtp, .inl (c_tp, 1200, .inl w_tp)), (mfv, .inl (c_fv, 5, .inl (upd f_133 (1 : Int32).toNatClampNeg a2)))] H := hP
    have hD : va_D A [(o0, .inr (8, [.int x_th, .ref mwo, .ref mim, .ref mhi, .ref mlu, .ref mtp, .int x_td, .ref mfv, .int x_sz, .int x_at, .int x_fr, .int x_to, .int x_va, .int x_fk, .int x_fp, .ref mfr, .ref mwt, .int x_wt, .int x_op, .int x_jo, .ref mfg, .ref mpl, .long x_dr, .ref mtm, .ref mfa, .ref mqu, .ref mmo, .ref mwy, .ref mwn, .ref mma, .ref mwi, .ref mnu, .ref mmv])), (mtp, .inl (c_tp, 1200, .inl w_tp)), (mfv, .inl (c_fv, 5, .inl (upd f_133 (1 : Int32).toNatClampNeg a2)))] := hD
    generalize (upd f_133 (1 : Int32).toNatClampNeg a2) = f_134 at hP hD
    have hP : va_P (dC, dI) vwCl [(o0, .inr (8, [.int x_th, .ref mwo, .ref mim, .ref mhi, .ref mlu, .ref mtp, .int x_td, .ref mfv, .int x_sz, .int x_at, .int x_fr, .int x_to, .int x_va, .int x_fk, .int x_fp, .ref mfr, .ref mwt, .int x_wt, .int x_op, .int x_jo, .ref mfg, .ref mpl, .long x_dr, .ref mtm, .ref mfa, .ref mqu, .ref mmo, .ref mwy, .ref mwn, .ref mma, .ref mwi, .ref mnu, .ref mmv])), (mtp, .inl (c_tp, 1200, .inl w_tp)), (mfv, .inl (c_fv, 5, .inl f_134))] H := hP
    have hD : va_D A [(o0, .inr (8, [.int x_th, .ref mwo, .ref mim, .ref mhi, .ref mlu, .ref mtp, .int x_td, .ref mfv, .int x_sz, .int x_at, .int x_fr, .int x_to, .int x_va, .int x_fk, .int x_fp, .ref mfr, .ref mwt, .int x_wt, .int x_op, .int x_jo, .ref mfg, .ref mpl, .long x_dr, .ref mtm, .ref mfa, .ref mqu, .ref mmo, .ref mwy, .ref mwn, .ref mma, .ref mwi, .ref mnu, .ref mmv])), (mtp, .inl (c_tp, 1200, .inl w_tp)), (mfv, .inl (c_fv, 5, .inl f_134))] := hD
    refine lv_aload_n hx hb dX10_feed_29 rfl (lv_at hl 0 rfl) ?_
    refine va_get (D := (dC, dI)) (ci := 8) (v := .ref mfv) (C := RX10) (T := TX10) (N := 33) hx hb hts iX10_feed_X10 hown hK hP 0 rfl rfl 7 (by decide) (hts (.fieldLink RX10 27 "LuckyTicketModel" "five" "[I") (List.mem_of_getElem? (i := 2) rfl)) (fun _ h9 => h9) rfl dX10_feed_30 ?_
    refine lv_iconst (v := 2) hx hb dX10_feed_33 (by decide) ?_
    refine lv_iload_n hx hb dX10_feed_34 rfl (lv_at hl 3 rfl) ?_
    refine va_iast hx hb hK hP hD hS 2 1 rfl rfl (vp_in_b (by decide : (2 : Int) ≤ (2 : Int32).toInt ∧ (2 : Int32).toInt ≤ 2) (by decide) (by decide)) dX10_feed_35 (fun H locs hP hD hS => ?_)
    have hP : va_P (dC, dI) vwCl [(o0, .inr (8, [.int x_th, .ref mwo, .ref mim, .ref mhi, .ref mlu, .ref mtp, .int x_td, .ref mfv, .int x_sz, .int x_at, .int x_fr, .int x_to, .int x_va, .int x_fk, .int x_fp, .ref mfr, .ref mwt, .int x_wt, .int x_op, .int x_jo, .ref mfg, .ref mpl, .long x_dr, .ref mtm, .ref mfa, .ref mqu, .ref mmo, .ref mwy, .ref mwn, .ref mma, .ref mwi, .ref mnu, .ref mmv])), (mtp, .inl (c_tp, 1200, .inl w_tp)), (mfv, .inl (c_fv, 5, .inl (upd f_134 (2 : Int32).toNatClampNeg a3)))] H := hP
    have hD : va_D A [(o0, .inr (8, [.int x_th, .ref mwo, .ref mim, .ref mhi, .ref mlu, .ref mtp, .int x_td, .ref mfv, .int x_sz, .int x_at, .int x_fr, .int x_to, .int x_va, .int x_fk, .int x_fp, .ref mfr, .ref mwt, .int x_wt, .int x_op, .int x_jo, .ref mfg, .ref mpl, .long x_dr, .ref mtm, .ref mfa, .ref mqu, .ref mmo, .ref mwy, .ref mwn, .ref mma, .ref mwi, .ref mnu, .ref mmv])), (mtp, .inl (c_tp, 1200, .inl w_tp)), (mfv, .inl (c_fv, 5, .inl (upd f_134 (2 : Int32).toNatClampNeg a3)))] := hD
    generalize (upd f_134 (2 : Int32).toNatClampNeg a3) = f_135 at hP hD
    have hP : va_P (dC, dI) vwCl [(o0, .inr (8, [.int x_th, .ref mwo, .ref mim, .ref mhi, .ref mlu, .ref mtp, .int x_td, .ref mfv, .int x_sz, .int x_at, .int x_fr, .int x_to, .int x_va, .int x_fk, .int x_fp, .ref mfr, .ref mwt, .int x_wt, .int x_op, .int x_jo, .ref mfg, .ref mpl, .long x_dr, .ref mtm, .ref mfa, .ref mqu, .ref mmo, .ref mwy, .ref mwn, .ref mma, .ref mwi, .ref mnu, .ref mmv])), (mtp, .inl (c_tp, 1200, .inl w_tp)), (mfv, .inl (c_fv, 5, .inl f_135))] H := hP
    have hD : va_D A [(o0, .inr (8, [.int x_th, .ref mwo, .ref mim, .ref mhi, .ref mlu, .ref mtp, .int x_td, .ref mfv, .int x_sz, .int x_at, .int x_fr, .int x_to, .int x_va, .int x_fk, .int x_fp, .ref mfr, .ref mwt, .int x_wt, .int x_op, .int x_jo, .ref mfg, .ref mpl, .long x_dr, .ref mtm, .ref mfa, .ref mqu, .ref mmo, .ref mwy, .ref mwn, .ref mma, .ref mwi, .ref mnu, .ref mmv])), (mtp, .inl (c_tp, 1200, .inl w_tp)), (mfv, .inl (c_fv, 5, .inl f_135))] := hD
    refine lv_aload_n hx hb dX10_feed_36 rfl (lv_at hl 0 rfl) ?_
    refine va_get (D := (dC, dI)) (ci := 8) (v := .ref mfv) (C := RX10) (T := TX10) (N := 33) hx hb hts iX10_feed_X10 hown hK hP 0 rfl rfl 7 (by decide) (hts (.fieldLink RX10 27 "LuckyTicketModel" "five" "[I") (List.mem_of_getElem? (i := 2) rfl)) (fun _ h9 => h9) rfl dX10_feed_37 ?_
    refine lv_iconst (v := 3) hx hb dX10_feed_40 (by decide) ?_
    refine lv_iload hx hb dX10_feed_41 (lv_at hl 4 rfl) ?_
    refine va_iast hx hb hK hP hD hS 2 1 rfl rfl (vp_in_b (by decide : (3 : Int) ≤ (3 : Int32).toInt ∧ (3 : Int32).toInt ≤ 3) (by decide) (by decide)) dX10_feed_43 (fun H locs hP hD hS => ?_)
    have hP : va_P (dC, dI) vwCl [(o0, .inr (8, [.int x_th, .ref mwo, .ref mim, .ref mhi, .ref mlu, .ref mtp, .int x_td, .ref mfv, .int x_sz, .int x_at, .int x_fr, .int x_to, .int x_va, .int x_fk, .int x_fp, .ref mfr, .ref mwt, .int x_wt, .int x_op, .int x_jo, .ref mfg, .ref mpl, .long x_dr, .ref mtm, .ref mfa, .ref mqu, .ref mmo, .ref mwy, .ref mwn, .ref mma, .ref mwi, .ref mnu, .ref mmv])), (mtp, .inl (c_tp, 1200, .inl w_tp)), (mfv, .inl (c_fv, 5, .inl (upd f_135 (3 : Int32).toNatClampNeg a4)))] H := hP
    have hD : va_D A [(o0, .inr (8, [.int x_th, .ref mwo, .ref mim, .ref mhi, .ref mlu, .ref mtp, .int x_td, .ref mfv, .int x_sz, .int x_at, .int x_fr, .int x_to, .int x_va, .int x_fk, .int x_fp, .ref mfr, .ref mwt, .int x_wt, .int x_op, .int x_jo, .ref mfg, .ref mpl, .long x_dr, .ref mtm, .ref mfa, .ref mqu, .ref mmo, .ref mwy, .ref mwn, .ref mma, .ref mwi, .ref mnu, .ref mmv])), (mtp, .inl (c_tp, 1200, .inl w_tp)), (mfv, .inl (c_fv, 5, .inl (upd f_135 (3 : Int32).toNatClampNeg a4)))] := hD
    generalize (upd f_135 (3 : Int32).toNatClampNeg a4) = f_136 at hP hD
    have hP : va_P (dC, dI) vwCl [(o0, .inr (8, [.int x_th, .ref mwo, .ref mim, .ref mhi, .ref mlu, .ref mtp, .int x_td, .ref mfv, .int x_sz, .int x_at, .int x_fr, .int x_to, .int x_va, .int x_fk, .int x_fp, .ref mfr, .ref mwt, .int x_wt, .int x_op, .int x_jo, .ref mfg, .ref mpl, .long x_dr, .ref mtm, .ref mfa, .ref mqu, .ref mmo, .ref mwy, .ref mwn, .ref mma, .ref mwi, .ref mnu, .ref mmv])), (mtp, .inl (c_tp, 1200, .inl w_tp)), (mfv, .inl (c_fv, 5, .inl f_136))] H := hP
    have hD : va_D A [(o0, .inr (8, [.int x_th, .ref mwo, .ref mim, .ref mhi, .ref mlu, .ref mtp, .int x_td, .ref mfv, .int x_sz, .int x_at, .int x_fr, .int x_to, .int x_va, .int x_fk, .int x_fp, .ref mfr, .ref mwt, .int x_wt, .int x_op, .int x_jo, .ref mfg, .ref mpl, .long x_dr, .ref mtm, .ref mfa, .ref mqu, .ref mmo, .ref mwy, .ref mwn, .ref mma, .ref mwi, .ref mnu, .ref mmv])), (mtp, .inl (c_tp, 1200, .inl w_tp)), (mfv, .inl (c_fv, 5, .inl f_136))] := hD
    refine lv_aload_n hx hb dX10_feed_44 rfl (lv_at hl 0 rfl) ?_
    refine va_get (D := (dC, dI)) (ci := 8) (v := .ref mfv) (C := RX10) (T := TX10) (N := 33) hx hb hts iX10_feed_X10 hown hK hP 0 rfl rfl 7 (by decide) (hts (.fieldLink RX10 27 "LuckyTicketModel" "five" "[I") (List.mem_of_getElem? (i := 2) rfl)) (fun _ h9 => h9) rfl dX10_feed_45 ?_
    refine lv_iconst (v := 4) hx hb dX10_feed_48 (by decide) ?_
    refine lv_iload hx hb dX10_feed_49 (lv_at hl 5 rfl) ?_
    refine va_iast hx hb hK hP hD hS 2 1 rfl rfl (vp_in_b (by decide : (4 : Int) ≤ (4 : Int32).toInt ∧ (4 : Int32).toInt ≤ 4) (by decide) (by decide)) dX10_feed_51 (fun H locs hP hD hS => ?_)
    have hP : va_P (dC, dI) vwCl [(o0, .inr (8, [.int x_th, .ref mwo, .ref mim, .ref mhi, .ref mlu, .ref mtp, .int x_td, .ref mfv, .int x_sz, .int x_at, .int x_fr, .int x_to, .int x_va, .int x_fk, .int x_fp, .ref mfr, .ref mwt, .int x_wt, .int x_op, .int x_jo, .ref mfg, .ref mpl, .long x_dr, .ref mtm, .ref mfa, .ref mqu, .ref mmo, .ref mwy, .ref mwn, .ref mma, .ref mwi, .ref mnu, .ref mmv])), (mtp, .inl (c_tp, 1200, .inl w_tp)), (mfv, .inl (c_fv, 5, .inl (upd f_136 (4 : Int32).toNatClampNeg a5)))] H := hP
    have hD : va_D A [(o0, .inr (8, [.int x_th, .ref mwo, .ref mim, .ref mhi, .ref mlu, .ref mtp, .int x_td, .ref mfv, .int x_sz, .int x_at, .int x_fr, .int x_to, .int x_va, .int x_fk, .int x_fp, .ref mfr, .ref mwt, .int x_wt, .int x_op, .int x_jo, .ref mfg, .ref mpl, .long x_dr, .ref mtm, .ref mfa, .ref mqu, .ref mmo, .ref mwy, .ref mwn, .ref mma, .ref mwi, .ref mnu, .ref mmv])), (mtp, .inl (c_tp, 1200, .inl w_tp)), (mfv, .inl (c_fv, 5, .inl (upd f_136 (4 : Int32).toNatClampNeg a5)))] := hD
    generalize (upd f_136 (4 : Int32).toNatClampNeg a5) = f_137 at hP hD
    have hP : va_P (dC, dI) vwCl [(o0, .inr (8, [.int x_th, .ref mwo, .ref mim, .ref mhi, .ref mlu, .ref mtp, .int x_td, .ref mfv, .int x_sz, .int x_at, .int x_fr, .int x_to, .int x_va, .int x_fk, .int x_fp, .ref mfr, .ref mwt, .int x_wt, .int x_op, .int x_jo, .ref mfg, .ref mpl, .long x_dr, .ref mtm, .ref mfa, .ref mqu, .ref mmo, .ref mwy, .ref mwn, .ref mma, .ref mwi, .ref mnu, .ref mmv])), (mtp, .inl (c_tp, 1200, .inl w_tp)), (mfv, .inl (c_fv, 5, .inl f_137))] H := hP
    have hD : va_D A [(o0, .inr (8, [.int x_th, .ref mwo, .ref mim, .ref mhi, .ref mlu, .ref mtp, .int x_td, .ref mfv, .int x_sz, .int x_at, .int x_fr, .int x_to, .int x_va, .int x_fk, .int x_fp, .ref mfr, .ref mwt, .int x_wt, .int x_op, .int x_jo, .ref mfg, .ref mpl, .long x_dr, .ref mtm, .ref mfa, .ref mqu, .ref mmo, .ref mwy, .ref mwn, .ref mma, .ref mwi, .ref mnu, .ref mmv])), (mtp, .inl (c_tp, 1200, .inl w_tp)), (mfv, .inl (c_fv, 5, .inl f_137))] := hD
    refine lv_iconst (v := 0) hx hb dX10_feed_52 (by decide) ?_
    refine lv_istore (lv' := [(6, .int 0), (0, .ref o0), (1, .int a1), (2, .int a2), (3, .int a3), (4, .int a4), (5, .int a5)]) hx hb dX10_feed_53 hl (by decide) rfl (fun ls hl => ?_)
    refine loopW (σ := Int32 × (Nat → Int32)) (fun v => (20 - v.1.toInt).toNat) (fun v H locs ls => ((0 : Int) ≤ v.1.toInt ∧ v.1.toInt ≤ 20) ∧ va_P (dC, dI) vwCl [(o0, .inr (8, [.int x_th, .ref mwo, .ref mim, .ref mhi, .ref mlu, .ref mtp, .int x_td, .ref mfv, .int x_sz, .int x_at, .int x_fr, .int x_to, .int x_va, .int x_fk, .int x_fp, .ref mfr, .ref mwt, .int x_wt, .int x_op, .int x_jo, .ref mfg, .ref mpl, .long x_dr, .ref mtm, .ref mfa, .ref mqu, .ref mmo, .ref mwy, .ref mwn, .ref mma, .ref mwi, .ref mnu, .ref mmv])), (mtp, .inl (c_tp, 1200, .inl v.2)), (mfv, .inl (c_fv, 5, .inl f_137))] H ∧ va_D A [(o0, .inr (8, [.int x_th, .ref mwo, .ref mim, .ref mhi, .ref mlu, .ref mtp, .int x_td, .ref mfv, .int x_sz, .int x_at, .int x_fr, .int x_to, .int x_va, .int x_fk, .int x_fp, .ref mfr, .ref mwt, .int x_wt, .int x_op, .int x_jo, .ref mfg, .ref mpl, .long x_dr, .ref mtm, .ref mfa, .ref mqu, .ref mmo, .ref mwy, .ref mwn, .ref mma, .ref mwi, .ref mnu, .ref mmv])), (mtp, .inl (c_tp, 1200, .inl v.2)), (mfv, .inl (c_fv, 5, .inl f_137))] ∧ va_S A s.heap H locs ∧ lv_has ls 7 [(6, .int v.1), (0, .ref o0), (1, .int a1), (2, .int a2), (3, .int a3), (4, .int a4), (5, .int a5)]) (fun v H locs ls hI ih_55_238 => ?_) ((0 : Int32), w_tp) ⟨(show (0 : Int) ≤ (0 : Int32).toInt ∧ (0 : Int32).toInt ≤ 20 from (rg_w (by decide : (0 : Int) ≤ (0 : Int32).toInt ∧ (0 : Int32).toInt ≤ 0) (by decide) (by decide))), hP, hD, hS, lv_sub hl [0, 1, 2, 3, 4, 5, 6] rfl⟩
    obtain ⟨y_149, f_150⟩ := v
    obtain ⟨b_y_149, hP, hD, hS, hl⟩ := hI
    have b_y_149 : (0 : Int) ≤ y_149.toInt ∧ y_149.toInt ≤ 20 := b_y_149
    have hP : va_P (dC, dI) vwCl [(o0, .inr (8, [.int x_th, .ref mwo, .ref mim, .ref mhi, .ref mlu, .ref mtp, .int x_td, .ref mfv, .int x_sz, .int x_at, .int x_fr, .int x_to, .int x_va, .int x_fk, .int x_fp, .ref mfr, .ref mwt, .int x_wt, .int x_op, .int x_jo, .ref mfg, .ref mpl, .long x_dr, .ref mtm, .ref mfa, .ref mqu, .ref mmo, .ref mwy, .ref mwn, .ref mma, .ref mwi, .ref mnu, .ref mmv])), (mtp, .inl (c_tp, 1200, .inl f_150)), (mfv, .inl (c_fv, 5, .inl f_137))] H := hP
    have hD : va_D A [(o0, .inr (8, [.int x_th, .ref mwo, .ref mim, .ref mhi, .ref mlu, .ref mtp, .int x_td, .ref mfv, .int x_sz, .int x_at, .int x_fr, .int x_to, .int x_va, .int x_fk, .int x_fp, .ref mfr, .ref mwt, .int x_wt, .int x_op, .int x_jo, .ref mfg, .ref mpl, .long x_dr, .ref mtm, .ref mfa, .ref mqu, .ref mmo, .ref mwy, .ref mwn, .ref mma, .ref mwi, .ref mnu, .ref mmv])), (mtp, .inl (c_tp, 1200, .inl f_150)), (mfv, .inl (c_fv, 5, .inl f_137))] := hD
    have hl : lv_has ls 7 [(6, .int y_149), (0, .ref o0), (1, .int a1), (2, .int a2), (3, .int a3), (4, .int a4), (5, .int a5)] := hl
    refine lv_iload hx hb dX10_feed_55 (lv_at hl 0 rfl) ?_
    refine lv_bipush (v := 20) hx hb dX10_feed_57 (by decide) ?_
    refine lv_icmp_ge (tgt := 101) hx hb dX10_feed_59 (by decide) (fun c_239 => ?_) (fun c_239 => ?_)
    ·
      have n_c_239 : (20 : Int) ≤ y_149.toInt := c_ge rfl (by decide) c_239
      have b_y_149 : (20 : Int) ≤ y_149.toInt ∧ y_149.toInt ≤ 20 := r_le2 (by decide : (20 : Int) ≤ (20 : Int32).toInt ∧ (20 : Int32).toInt ≤ 20) b_y_149 n_c_239 (by decide)
      refine lv_aload_n hx hb dX10_feed_101 rfl (lv_at hl 1 rfl) ?_
      refine lv_dup hx hb dX10_feed_102 rfl ?_
      refine va_get (D := (dC, dI)) (ci := 8) (v := .int x_td) (C := RX10) (T := TX10) (N := 33) hx hb hts iX10_feed_X10 hown hK hP 0 rfl rfl 6 (by decide) (hts (.fieldLink RX10 97 "LuckyTicketModel" "taped" "I") (List.mem_of_getElem? (i := 1) rfl)) (fun _ h9 => h9) rfl dX10_feed_103 ?_
      refine lv_bipush (v := 20) hx hb dX10_feed_106 (by decide) ?_
      refine lv_iadd hx hb dX10_feed_108 ?_
      refine lv_topi (fun z_250 e_z_250 => ?_)
      obtain ⟨q_z_250, b_z_250⟩ := ti_add (lo := 20) (hi := 1200) e_z_250 rfl (by decide : (20 : Int32).toInt = 20) b_x_td (by decide : (20 : Int) ≤ (20 : Int32).toInt ∧ (20 : Int32).toInt ≤ 20) (by decide)
      refine va_put (D := (dC, dI)) (ci := 8) (v := .int z_250) (ty := .int) (C := RX10) (T := TX10) (N := 33) hx hb hts iX10_feed_X10 tyX10 tyX10_ok nmX10 hown hK hP hD hS 0 rfl rfl 6 (by decide) (hts (.fieldLink RX10 97 "LuckyTicketModel" "taped" "I") (List.mem_of_getElem? (i := 1) rfl)) (fun _ h9 => h9) rfl (by decide +kernel) rfl rfl (Nat.le_of_ble_eq_true rfl) dX10_feed_109 (fun H locs hP hD hS => ?_)
      have hP : va_P (dC, dI) vwCl [(o0, .inr (8, [.int x_th, .ref mwo, .ref mim, .ref mhi, .ref mlu, .ref mtp, .int z_250, .ref mfv, .int x_sz, .int x_at, .int x_fr, .int x_to, .int x_va, .int x_fk, .int x_fp, .ref mfr, .ref mwt, .int x_wt, .int x_op, .int x_jo, .ref mfg, .ref mpl, .long x_dr, .ref mtm, .ref mfa, .ref mqu, .ref mmo, .ref mwy, .ref mwn, .ref mma, .ref mwi, .ref mnu, .ref mmv])), (mtp, .inl (c_tp, 1200, .inl f_150)), (mfv, .inl (c_fv, 5, .inl f_137))] H := hP
      have hD : va_D A [(o0, .inr (8, [.int x_th, .ref mwo, .ref mim, .ref mhi, .ref mlu, .ref mtp, .int z_250, .ref mfv, .int x_sz, .int x_at, .int x_fr, .int x_to, .int x_va, .int x_fk, .int x_fp, .ref mfr, .ref mwt, .int x_wt, .int x_op, .int x_jo, .ref mfg, .ref mpl, .long x_dr, .ref mtm, .ref mfa, .ref mqu, .ref mmo, .ref mwy, .ref mwn, .ref mma, .ref mwi, .ref mnu, .ref mmv])), (mtp, .inl (c_tp, 1200, .inl f_150)), (mfv, .inl (c_fv, 5, .inl f_137))] := hD
      refine lv_aload_n hx hb dX10_feed_112 rfl (lv_at hl 1 rfl) ?_
      refine va_get (D := (dC, dI)) (ci := 8) (v := .int z_250) (C := RX10) (T := TX10) (N := 33) hx hb hts iX10_feed_X10 hown hK hP 0 rfl rfl 6 (by decide) (hts (.fieldLink RX10 97 "LuckyTicketModel" "taped" "I") (List.mem_of_getElem? (i := 1) rfl)) (fun _ h9 => h9) rfl dX10_feed_113 ?_
      have hP9 := hP.sub (ws' := [(o0, .inr (8, [.int x_th, .ref mwo, .ref mim, .ref mhi, .ref mlu, .ref mtp, .int z_250, .ref mfv, .int x_sz, .int x_at, .int x_fr, .int x_to, .int x_va, .int x_fk, .int x_fp, .ref mfr, .ref mwt, .int x_wt, .int x_op, .int x_jo, .ref mfg, .ref mpl, .long x_dr, .ref mtm, .ref mfa, .ref mqu, .ref mmo, .ref mwy, .ref mwn, .ref mma, .ref mwi, .ref mnu, .ref mmv])), (mtp, .inl (c_tp, 1200, .inl f_150)), (mfv, .inl (c_fv, 5, .inl f_137))]) [0, 1, 2] rfl
      have hD9 := hD.sub (ws' := [(o0, .inr (8, [.int x_th, .ref mwo, .ref mim, .ref mhi, .ref mlu, .ref mtp, .int z_250, .ref mfv, .int x_sz, .int x_at, .int x_fr, .int x_to, .int x_va, .int x_fk, .int x_fp, .ref mfr, .ref mwt, .int x_wt, .int x_op, .int x_jo, .ref mfg, .ref mpl, .long x_dr, .ref mtm, .ref mfa, .ref mqu, .ref mmo, .ref mwy, .ref mwn, .ref mma, .ref mwi, .ref mnu, .ref mmv])), (mtp, .inl (c_tp, 1200, .inl f_150)), (mfv, .inl (c_fv, 5, .inl f_137))]) [0, 1, 2] (by decide) rfl
      have hK9 := hK.sub (tys' := [(c_tp, .byte), (c_fv, .int)]) [0, 1] rfl
      exact W.iret (v := z_250) hx hb hr (fun t ht hW => ⟨⟨z_250, (), rfl, (rg_w b_z_250 (by decide) (by decide)), z_250, f_150, f_137, b_z_250, by rw [ht]; exact hP9, va_K.moved hW.alike hK9, hD9⟩, hS.F ht⟩) hS.2.2 dX10_feed_116
    ·
      have n_c_239 : (y_149.toInt : Int) < 20 := c_nge rfl (by decide) c_239
      have b_y_149 : (0 : Int) ≤ y_149.toInt ∧ y_149.toInt ≤ 19 := r_lt1 b_y_149 (by decide : (20 : Int) ≤ (20 : Int32).toInt ∧ (20 : Int32).toInt ≤ 20) n_c_239 (by decide)
      refine lv_aload_n hx hb dX10_feed_62 rfl (lv_at hl 1 rfl) ?_
      refine va_get (D := (dC, dI)) (ci := 8) (v := .ref mtp) (C := RX10) (T := TX10) (N := 33) hx hb hts iX10_feed_X10 hown hK hP 0 rfl rfl 5 (by decide) (hts (.fieldLink RX10 23 "LuckyTicketModel" "tape" "[B") (List.mem_of_getElem? (i := 3) rfl)) (fun _ h9 => h9) rfl dX10_feed_63 ?_
      refine lv_aload_n hx hb dX10_feed_66 rfl (lv_at hl 1 rfl) ?_
      refine va_get (D := (dC, dI)) (ci := 8) (v := .int x_td) (C := RX10) (T := TX10) (N := 33) hx hb hts iX10_feed_X10 hown hK hP 0 rfl rfl 6 (by decide) (hts (.fieldLink RX10 97 "LuckyTicketModel" "taped" "I") (List.mem_of_getElem? (i := 1) rfl)) (fun _ h9 => h9) rfl dX10_feed_67 ?_
      refine lv_iload hx hb dX10_feed_70 (lv_at hl 0 rfl) ?_
      refine lv_iadd hx hb dX10_feed_72 ?_
      refine lv_topi (fun z_251 e_z_251 => ?_)
      obtain ⟨q_z_251, b_z_251⟩ := ti_add (lo := 0) (hi := 1199) e_z_251 rfl rfl b_x_td b_y_149 (by decide)
      refine lv_aload_n hx hb dX10_feed_73 rfl (lv_at hl 1 rfl) ?_
      refine va_get (D := (dC, dI)) (ci := 8) (v := .ref mfv) (C := RX10) (T := TX10) (N := 33) hx hb hts iX10_feed_X10 hown hK hP 0 rfl rfl 7 (by decide) (hts (.fieldLink RX10 27 "LuckyTicketModel" "five" "[I") (List.mem_of_getElem? (i := 2) rfl)) (fun _ h9 => h9) rfl dX10_feed_74 ?_
      refine lv_iload hx hb dX10_feed_77 (lv_at hl 0 rfl) ?_
      refine lv_iconst (v := 4) hx hb dX10_feed_79 (by decide) ?_
      refine lv_idiv hx hb dX10_feed_80 (by decide) ?_
      refine lv_topi (fun z_252 e_z_252 => ?_)
      obtain ⟨q_z_252, b_z_252⟩ := ti_div (hi := 4) e_z_252 rfl (by decide : (4 : Int32).toInt = 4) b_y_149 (by decide : (4 : Int) ≤ (4 : Int32).toInt ∧ (4 : Int32).toInt ≤ 4) (by decide)
      refine va_iald hx hb hK hP 2 1 rfl rfl (vp_in_b b_z_252 (by decide) (by decide)) dX10_feed_81 ?_
      refine lv_topi (fun z_253 e_z_253 => ?_)
      refine lv_bipush (v := 24) hx hb dX10_feed_82 (by decide) ?_
      refine lv_bipush (v := 8) hx hb dX10_feed_84 (by decide) ?_
      refine lv_iload hx hb dX10_feed_86 (lv_at hl 0 rfl) ?_
      refine lv_iconst (v := 4) hx hb dX10_feed_88 (by decide) ?_
      refine lv_irem hx hb dX10_feed_89 (by decide) ?_
      refine lv_topi (fun z_254 e_z_254 => ?_)
      obtain ⟨q_z_254, b_z_254⟩ := ti_rem (hi := 3) e_z_254 rfl (by decide : (4 : Int32).toInt = 4) b_y_149 (by decide : (4 : Int) ≤ (4 : Int32).toInt ∧ (4 : Int32).toInt ≤ 4) (by decide)
      refine lv_imul hx hb dX10_feed_90 ?_
      refine lv_topi (fun z_255 e_z_255 => ?_)
      obtain ⟨q_z_255, b_z_255⟩ := ti_mul (lo := 0) (hi := 24) e_z_255 (by decide : (8 : Int32).toInt = 8) rfl (by decide : (8 : Int) ≤ (8 : Int32).toInt ∧ (8 : Int32).toInt ≤ 8) b_z_254 (by decide)
      refine lv_isub hx hb dX10_feed_91 ?_
      refine lv_topi (fun z_256 e_z_256 => ?_)
      obtain ⟨q_z_256, b_z_256⟩ := ti_sub (lo := 0) (hi := 24) e_z_256 (by decide : (24 : Int32).toInt = 24) rfl (by decide : (24 : Int) ≤ (24 : Int32).toInt ∧ (24 : Int32).toInt ≤ 24) b_z_255 (by decide)
      refine lv_ishr hx hb dX10_feed_92 ?_
      refine lv_topi (fun z_257 e_z_257 => ?_)
      obtain ⟨z_258, e_z_258⟩ : ∃ y : Int32, y = z_257.toInt8.toInt32 := ⟨_, rfl⟩
      refine lv_i2b (v := z_258) hx hb dX10_feed_93 e_z_258.symm ?_
      refine va_bast hx hb hK hP hD hS 1 0 rfl rfl (vp_in_b b_z_251 (by decide) (by decide)) dX10_feed_94 (fun H locs hP hD hS => ?_)
      have hP : va_P (dC, dI) vwCl [(o0, .inr (8, [.int x_th, .ref mwo, .ref mim, .ref mhi, .ref mlu, .ref mtp, .int x_td, .ref mfv, .int x_sz, .int x_at, .int x_fr, .int x_to, .int x_va, .int x_fk, .int x_fp, .ref mfr, .ref mwt, .int x_wt, .int x_op, .int x_jo, .ref mfg, .ref mpl, .long x_dr, .ref mtm, .ref mfa, .ref mqu, .ref mmo, .ref mwy, .ref mwn, .ref mma, .ref mwi, .ref mnu, .ref mmv])), (mtp, .inl (c_tp, 1200, .inl (upd f_150 (z_251 : Int32).toNatClampNeg (vp_nar .byte z_258)))), (mfv, .inl (c_fv, 5, .inl f_137))] H := hP
      have hD : va_D A [(o0, .inr (8, [.int x_th, .ref mwo, .ref mim, .ref mhi, .ref mlu, .ref mtp, .int x_td, .ref mfv, .int x_sz, .int x_at, .int x_fr, .int x_to, .int x_va, .int x_fk, .int x_fp, .ref mfr, .ref mwt, .int x_wt, .int x_op, .int x_jo, .ref mfg, .ref mpl, .long x_dr, .ref mtm, .ref mfa, .ref mqu, .ref mmo, .ref mwy, .ref mwn, .ref mma, .ref mwi, .ref mnu, .ref mmv])), (mtp, .inl (c_tp, 1200, .inl (upd f_150 (z_251 : Int32).toNatClampNeg (vp_nar .byte z_258)))), (mfv, .inl (c_fv, 5, .inl f_137))] := hD
      generalize (upd f_150 (z_251 : Int32).toNatClampNeg (vp_nar .byte z_258)) = f_259 at hP hD
      have hP : va_P (dC, dI) vwCl [(o0, .inr (8, [.int x_th, .ref mwo, .ref mim, .ref mhi, .ref mlu, .ref mtp, .int x_td, .ref mfv, .int x_sz, .int x_at, .int x_fr, .int x_to, .int x_va, .int x_fk, .int x_fp, .ref mfr, .ref mwt, .int x_wt, .int x_op, .int x_jo, .ref mfg, .ref mpl, .long x_dr, .ref mtm, .ref mfa, .ref mqu, .ref mmo, .ref mwy, .ref mwn, .ref mma, .ref mwi, .ref mnu, .ref mmv])), (mtp, .inl (c_tp, 1200, .inl f_259)), (mfv, .inl (c_fv, 5, .inl f_137))] H := hP
      have hD : va_D A [(o0, .inr (8, [.int x_th, .ref mwo, .ref mim, .ref mhi, .ref mlu, .ref mtp, .int x_td, .ref mfv, .int x_sz, .int x_at, .int x_fr, .int x_to, .int x_va, .int x_fk, .int x_fp, .ref mfr, .ref mwt, .int x_wt, .int x_op, .int x_jo, .ref mfg, .ref mpl, .long x_dr, .ref mtm, .ref mfa, .ref mqu, .ref mmo, .ref mwy, .ref mwn, .ref mma, .ref mwi, .ref mnu, .ref mmv])), (mtp, .inl (c_tp, 1200, .inl f_259)), (mfv, .inl (c_fv, 5, .inl f_137))] := hD
      obtain ⟨z_260, e_z_260⟩ : ∃ y : Int32, y = y_149 + 1 := ⟨_, rfl⟩
      refine lv_iinc (v := z_260) (lv' := [(6, .int z_260), (0, .ref o0), (1, .int a1), (2, .int a2), (3, .int a3), (4, .int a4), (5, .int a5)]) hx hb dX10_feed_95 hl (k := 0) rfl (by rw [e_z_260]; rfl) (by decide) rfl (fun ls hl => ?_)
      obtain ⟨q_z_260, b_z_260⟩ := ti_add (lo := 1) (hi := 20) e_z_260 rfl (by decide : (1 : Int32).toInt = 1) b_y_149 (by decide : (1 : Int) ≤ (1 : Int32).toInt ∧ (1 : Int32).toInt ≤ 1) (by decide)
      refine lv_goto (tgt := 55) hx hb dX10_feed_98 (by decide) ?_
      exact ih_55_238 (z_260, f_259) _ _ _ ⟨(show (0 : Int) ≤ z_260.toInt ∧ z_260.toInt ≤ 20 from (rg_w b_z_260 (by decide) (by decide))), hP, hD, hS, lv_sub hl [0, 1, 2, 3, 4, 5, 6] rfl⟩ (show (20 - z_260.toInt).toNat < (20 - y_149.toInt).toNat by omega)
  ·
    have n_c_132 : (1200 : Int) < z_131.toInt := c_nle rfl (by decide) c_132
    have b_z_131 : (1201 : Int) ≤ z_131.toInt ∧ z_131.toInt ≤ 1220 := r_lt2 (by decide : (1200 : Int) ≤ (1200 : Int32).toInt ∧ (1200 : Int32).toInt ≤ 1200) b_z_131 n_c_132 (by decide)
    have b_x_td : (1181 : Int) ≤ x_td.toInt ∧ x_td.toInt ≤ 1200 := by
      have q0 := b_z_131; have q1 := q_z_131; have q2 := b_x_td; have q3 := (by decide : (20 : Int) ≤ (20 : Int32).toInt ∧ (20 : Int32).toInt ≤ 20); omega
    refine lv_iconst (v := (-1)) hx hb dX10_feed_13 (by decide) ?_
    have hP9 := hP.sub (ws' := [(o0, .inr (8, [.int x_th, .ref mwo, .ref mim, .ref mhi, .ref mlu, .ref mtp, .int x_td, .ref mfv, .int x_sz, .int x_at, .int x_fr, .int x_to, .int x_va, .int x_fk, .int x_fp, .ref mfr, .ref mwt, .int x_wt, .int x_op, .int x_jo, .ref mfg, .ref mpl, .long x_dr, .ref mtm, .ref mfa, .ref mqu, .ref mmo, .ref mwy, .ref mwn, .ref mma, .ref mwi, .ref mnu, .ref mmv])), (mtp, .inl (c_tp, 1200, .inl w_tp)), (mfv, .inl (c_fv, 5, .inl w_fv))]) [0, 1, 2] rfl
    have hD9 := hD.sub (ws' := [(o0, .inr (8, [.int x_th, .ref mwo, .ref mim, .ref mhi, .ref mlu, .ref mtp, .int x_td, .ref mfv, .int x_sz, .int x_at, .int x_fr, .int x_to, .int x_va, .int x_fk, .int x_fp, .ref mfr, .ref mwt, .int x_wt, .int x_op, .int x_jo, .ref mfg, .ref mpl, .long x_dr, .ref mtm, .ref mfa, .ref mqu, .ref mmo, .ref mwy, .ref mwn, .ref mma, .ref mwi, .ref mnu, .ref mmv])), (mtp, .inl (c_tp, 1200, .inl w_tp)), (mfv, .inl (c_fv, 5, .inl w_fv))]) [0, 1, 2] (by decide) rfl
    have hK9 := hK.sub (tys' := [(c_tp, .byte), (c_fv, .int)]) [0, 1] rfl
    exact W.iret (v := (-1)) hx hb hr (fun t ht hW => ⟨⟨(-1), (), rfl, (rg_w (by decide : (-1 : Int) ≤ ((-1) : Int32).toInt ∧ ((-1) : Int32).toInt ≤ -1) (by decide) (by decide)), x_td, w_tp, w_fv, (rg_w b_x_td (by decide) (by decide)), by rw [ht]; exact hP9, va_K.moved hW.alike hK9, hD9⟩, hS.F ht⟩) hS.2.2 dX10_feed_14
theorem dX10_end_0 : decode cX10_end 0 = .ok (.iload_n 1, 1) := by decide +kernel
theorem dX10_end_1 : decode cX10_end 1 = .ok (.i2l, 1) := by decide +kernel
theorem dX10_end_2 : decode cX10_end 2 = .ok (.lconst 0, 1) := by decide +kernel
theorem dX10_end_3 : decode cX10_end 3 = .ok (.aload_n 0, 1) := by decide +kernel
theorem dX10_end_4 : decode cX10_end 4 = .ok (.getfield 97, 3) := by decide +kernel
theorem dX10_end_7 : decode cX10_end 7 = .ok (.i2l, 1) := by decide +kernel
theorem dX10_end_8 : decode cX10_end 8 = .ok (.invokestatic 82, 3) := by decide +kernel
theorem dX10_end_11 : decode cX10_end 11 = .ok (.ifCond .ne 5, 3) := by decide +kernel
theorem dX10_end_14 : decode cX10_end 14 = .ok (.iconst (-1), 1) := by decide +kernel
theorem dX10_end_15 : decode cX10_end 15 = .ok (.ireturn, 1) := by decide +kernel
theorem dX10_end_16 : decode cX10_end 16 = .ok (.aload_n 0, 1) := by decide +kernel
theorem dX10_end_17 : decode cX10_end 17 = .ok (.iload_n 1, 1) := by decide +kernel
theorem dX10_end_18 : decode cX10_end 18 = .ok (.putfield 97, 3) := by decide +kernel
theorem dX10_end_21 : decode cX10_end 21 = .ok (.iload_n 1, 1) := by decide +kernel
theorem dX10_end_22 : decode cX10_end 22 = .ok (.ireturn, 1) := by decide +kernel
def uX10_end : List Cond := .code yX10_end cX10_end 2 (some .int) :: ([.fieldLink RX10 97 "LuckyTicketModel" "taped" "I", .methodLink RX10 82 yX10_in, .static yX10_in, .initialized RX10, .code yX10_in cX10_in 6 (some .boolean)] ++ wsX100)
theorem iX10_end_X10 : ∀ w ∈ wsX100, w ∈ uX10_end := fun _ h => List.mem_cons_of_mem _ (List.mem_append_right _ h)
set_option maxRecDepth 20000 in
theorem gX10_end__X10_in_S82 : GoodIn uX10_end (va_wsS RX10 82 yX10_in uX10_in) := goodIn_p _ [5] rfl (by decide +kernel)
set_option maxHeartbeats 4000000 in
set_option maxRecDepth 100000 in
theorem kX10_end (l : Launch) (dC : Nat → ClassId) (dI : Nat → Nat → Nat) (o0 : Nat) (x_th : Int32) (mwo : Nat) (mim : Nat) (mhi : Nat) (mlu : Nat) (mtp : Nat) (x_td : Int32) (mfv : Nat) (x_sz : Int32) (x_at : Int32) (x_fr : Int32) (x_to : Int32) (x_va : Int32) (x_fk : Int32) (x_fp : Int32) (mfr : Nat) (mwt : Nat) (x_wt : Int32) (x_op : Int32) (x_jo : Int32) (mfg : Nat) (mpl : Nat) (x_dr : Int64) (mtm : Nat) (mfa : Nat) (mqu : Nat) (mmo : Nat) (mwy : Nat) (mwn : Nat) (mma : Nat) (mwi : Nat) (mnu : Nat) (mmv : Nat) (a1 : Int32) (sz : Nat) (b_x_td : (0 : Int) ≤ x_td.toInt ∧ x_td.toInt ≤ 1200) : Met l yX10_end uX10_end ({ frames := 1, cells := 0, slots := 0, locals := 25 }) (va_Pc [.ref o0, .int a1] (hw (dC, dI) vwCl [(o0, .inr (8, [.int x_th, .ref mwo, .ref mim, .ref mhi, .ref mlu, .ref mtp, .int x_td, .ref mfv, .int x_sz, .int x_at, .int x_fr, .int x_to, .int x_va, .int x_fk, .int x_fp, .ref mfr, .ref mwt, .int x_wt, .int x_op, .int x_jo, .ref mfg, .ref mpl, .long x_dr, .ref mtm, .ref mfa, .ref mqu, .ref mmo, .ref mwy, .ref mwn, .ref mma, .ref mwi, .ref mnu, .ref mmv]))] [] sz)) (va_Qi (fun (r : Int32) (_ : Unit) => ((-1 : Int) ≤ r.toInt ∧ r.toInt ≤ 1200)) (fun (_ : Unit) t => ∃ (o0_ : Int32), ((0 : Int) ≤ o0_.toInt ∧ o0_.toInt ≤ 1200) ∧ va_P (dC, dI) vwCl [(o0, .inr (8, [.int x_th, .ref mwo, .ref mim, .ref mhi, .ref mlu, .ref mtp, .int o0_, .ref mfv, .int x_sz, .int x_at, .int x_fr, .int x_to, .int x_va, .int x_fk, .int x_fp, .ref mfr, .ref mwt, .int x_wt, .int x_op, .int x_jo, .ref mfg, .ref mpl, .long x_dr, .ref mtm, .ref mfa, .ref mqu, .ref mmo, .ref mwy, .ref mwn, .ref mma, .ref mwi, .ref mnu, .ref mmv]))] t.heap ∧ va_K (dC, dI) vwCl [] t ∧ va_D (va_A [(o0, .inr (8, [.int x_th, .ref mwo, .ref mim, .ref mhi, .ref mlu, .ref mtp, .int x_td, .ref mfv, .int x_sz, .int x_at, .int x_fr, .int x_to, .int x_va, .int x_fk, .int x_fp, .ref mfr, .ref mwt, .int x_wt, .int x_op, .int x_jo, .ref mfg, .ref mpl, .long x_dr, .ref mtm, .ref mfa, .ref mqu, .ref mmo, .ref mwy, .ref mwn, .ref mma, .ref mwi, .ref mnu, .ref mmv]))] sz) [(o0, .inr (8, [.int x_th, .ref mwo, .ref mim, .ref mhi, .ref mlu, .ref mtp, .int o0_, .ref mfv, .int x_sz, .int x_at, .int x_fr, .int x_to, .int x_va, .int x_fk, .int x_fp, .ref mfr, .ref mwt, .int x_wt, .int x_op, .int x_jo, .ref mfg, .ref mpl, .long x_dr, .ref mtm, .ref mfa, .ref mqu, .ref mmo, .ref mwy, .ref mwn, .ref mma, .ref mwi, .ref mnu, .ref mmv]))]) (va_A [(o0, .inr (8, [.int x_th, .ref mwo, .ref mim, .ref mhi, .ref mlu, .ref mtp, .int x_td, .ref mfv, .int x_sz, .int x_at, .int x_fr, .int x_to, .int x_va, .int x_fk, .int x_fp, .ref mfr, .ref mwt, .int x_wt, .int x_op, .int x_jo, .ref mfg, .ref mpl, .long x_dr, .ref mtm, .ref mfa, .ref mqu, .ref mmo, .ref mwy, .ref mwn, .ref mma, .ref mwi, .ref mnu, .ref mmv]))] sz)) 0 0 (va_A [(o0, .inr (8, [.int x_th, .ref mwo, .ref mim, .ref mhi, .ref mlu, .ref mtp, .int x_td, .ref mfv, .int x_sz, .int x_at, .int x_fr, .int x_to, .int x_va, .int x_fk, .int x_fp, .ref mfr, .ref mwt, .int x_wt, .int x_op, .int x_jo, .ref mfg, .ref mpl, .long x_dr, .ref mtm, .ref mfa, .ref mqu, .ref mmo, .ref mwy, .ref mwn, .ref mma, .ref mwi, .ref mnu, .ref mmv]))] sz) := by
  refine Met.ofW (cc := cX10_end) (maxL := 2) (ret := (some .int)) (by decide) rfl ?_
  intro p e s m args below meth c s₁ B hml hv
  obtain ⟨rfl, hsz, hP, hK, hD0, hN⟩ := hv
  have hx := B.exec
  have hb := B.bytes
  have hr := B.returns
  have hts := atoms_spec (ws := uX10_end) B.pre
  have hown : s.vm.findClass RX10 = some m.cls := findClass_of_methodNamed B.named
  have hlocks := B.notSynchronized
  subst hsz
  have hD := hD0.self (sz := s.heap.size)
  generalize hAe : va_A [(o0, .inr (8, [.int x_th, .ref mwo, .ref mim, .ref mhi, .ref mlu, .ref mtp, .int x_td, .ref mfv, .int x_sz, .int x_at, .int x_fr, .int x_to, .int x_va, .int x_fk, .int x_fp, .ref mfr, .ref mwt, .int x_wt, .int x_op, .int x_jo, .ref mfg, .ref mpl, .long x_dr, .ref mtm, .ref mfa, .ref mqu, .ref mmo, .ref mwy, .ref mwn, .ref mma, .ref mwi, .ref mnu, .ref mmv]))] s.heap.size = A at hD ⊢
  have hA : ∀ q : Nat, s.heap.size ≤ q → A q := fun q h => by rw [← hAe]; exact Or.inr h
  have hS : va_S A s.heap s.heap [] := va_S.rf
  have hP : va_P (dC, dI) vwCl [(o0, .inr (8, [.int x_th, .ref mwo, .ref mim, .ref mhi, .ref mlu, .ref mtp, .int x_td, .ref mfv, .int x_sz, .int x_at, .int x_fr, .int x_to, .int x_va, .int x_fk, .int x_fp, .ref mfr, .ref mwt, .int x_wt, .int x_op, .int x_jo, .ref mfg, .ref mpl, .long x_dr, .ref mtm, .ref mfa, .ref mqu, .ref mmo, .ref mwy, .ref mwn, .ref mma, .ref mwi, .ref mnu, .ref mmv]))] s.heap := hP
  have hl := lv_entry ([.ref o0, .int a1]) (n := 2) (Nat.le_of_ble_eq_true rfl)
  rw [lg_entry_eq]
  generalize (lg_sl ([.ref o0, .int a1]) ++ List.replicate (2 - (lg_sl ([.ref o0, .int a1])).length) Slot.unset).toArray = ls at hl ⊢
  have hl : lv_has ls 2 [(0, .ref o0), (1, .int a1)] := hl
  refine lv_iload_n hx hb dX10_end_0 rfl (lv_at hl 1 rfl) ?_
  obtain ⟨z_6, e_z_6⟩ : ∃ y : Int64, y = a1.toInt64 := ⟨_, rfl⟩
  refine lv_i2l (v := z_6) hx hb dX10_end_1 e_z_6.symm ?_
  obtain ⟨q_z_6, b_z_6⟩ := ti_i2l e_z_6 (ti_rng a1)
  refine lv_lconst (v := 0) hx hb dX10_end_2 (by decide) ?_
  refine lv_aload_n hx hb dX10_end_3 rfl (lv_at hl 0 rfl) ?_
  refine va_get (D := (dC, dI)) (ci := 8) (v := .int x_td) (C := RX10) (T := TX10) (N := 33) hx hb hts iX10_end_X10 hown hK hP 0 rfl rfl 6 (by decide) (hts (.fieldLink RX10 97 "LuckyTicketModel" "taped" "I") (List.mem_of_getElem? (i := 1) rfl)) (fun _ h9 => h9) rfl dX10_end_4 ?_
  obtain ⟨z_7, e_z_7⟩ : ∃ y : Int64, y = x_td.toInt64 := ⟨_, rfl⟩
  refine lv_i2l (v := z_7) hx hb dX10_end_7 e_z_7.symm ?_
  obtain ⟨q_z_7, b_z_7⟩ := ti_i2l e_z_7 b_x_td
  refine vp_callSi (W.runS (As := [.long z_6, .long 0, .long z_7]) (rest := []) ⟨hx, hb, hml, hown, hts⟩ (kX10_in l dC dI z_6 0 z_7 ) (va_cwS 3 hts gX10_end__X10_in_S82 rfl rfl rfl (by decide +kernel) ⟨lel 1 1 rfl, lel 25 25 rfl⟩) ⟨pn_fb, pn_use⟩ rfl rfl hl.1 rfl (lv_room (Nat.le_of_ble_eq_true rfl)) dX10_end_8 ⟨lel 0 0 rfl, lel 0 0 rfl⟩) (fun r_8 h_r_8 => ?_)
  obtain ⟨b_r_8, nz_r_8⟩ := h_r_8
  have b_r_8 : (0 : Int) ≤ r_8.toInt ∧ r_8.toInt ≤ 1 := b_r_8
  refine lv_if_ne (tgt := 16) hx hb dX10_end_11 (by decide) (fun c_9 => ?_) (fun c_9 => ?_)
  ·
    have n_c_9 : (r_8.toInt : Int) ≠ 0 := c_ne rfl (by decide) c_9
    have b_r_8 : (1 : Int) ≤ r_8.toInt ∧ r_8.toInt ≤ 1 := r_ne1 b_r_8 (by decide : (0 : Int) ≤ (0 : Int32).toInt ∧ (0 : Int32).toInt ≤ 0) n_c_9 (by decide)
    have g_10 := nz_r_8 c_9
    have lt0_g_10 := (by decide : (0 : Int64).toInt = 0)
    have b_z_6 : (0 : Int) ≤ z_6.toInt ∧ z_6.toInt ≤ 1200 := by
      have q0 := b_z_6
      have q1 := (by decide : (0 : Int) ≤ (0 : Int64).toInt ∧ (0 : Int64).toInt ≤ 0)
      have q2 := b_z_7
      omega
    have b_a1 : (0 : Int) ≤ a1.toInt ∧ a1.toInt ≤ 1200 := by
      have q0 := b_z_6; have q1 := q_z_6; have q2 := (ti_rng a1); omega
    refine lv_aload_n hx hb dX10_end_16 rfl (lv_at hl 0 rfl) ?_
    refine lv_iload_n hx hb dX10_end_17 rfl (lv_at hl 1 rfl) ?_
    refine va_put (D := (dC, dI)) (ci := 8) (v := .int a1) (ty := .int) (C := RX10) (T := TX10) (N := 33) hx hb hts iX10_end_X10 tyX10 tyX10_ok nmX10 hown hK hP hD hS 0 rfl rfl 6 (by decide) (hts (.fieldLink RX10 97 "LuckyTicketModel" "taped" "I") (List.mem_of_getElem? (i := 1) rfl)) (fun _ h9 => h9) rfl (by decide +kernel) rfl rfl (Nat.le_of_ble_eq_true rfl) dX10_end_18 (fun H locs hP hD hS => ?_)
    have hP : va_P (dC, dI) vwCl [(o0, .inr (8, [.int x_th, .ref mwo, .ref mim, .ref mhi, .ref mlu, .ref mtp, .int a1, .ref mfv, .int x_sz, .int x_at, .int x_fr, .int x_to, .int x_va, .int x_fk, .int x_fp, .ref mfr, .ref mwt, .int x_wt, .int x_op, .int x_jo, .ref mfg, .ref mpl, .long x_dr, .ref mtm, .ref mfa, .ref mqu, .ref mmo, .ref mwy, .ref mwn, .ref mma, .ref mwi, .ref mnu, .ref mmv]))] H := hP
    have hD : va_D A [(o0, .inr (8, [.int x_th, .ref mwo, .ref mim, .ref mhi, .ref mlu, .ref mtp, .int a1, .ref mfv, .int x_sz, .int x_at, .int x_fr, .int x_to, .int x_va, .int x_fk, .int x_fp, .ref mfr, .ref mwt, .int x_wt, .int x_op, .int x_jo, .ref mfg, .ref mpl, .long x_dr, .ref mtm, .ref mfa, .ref mqu, .ref mmo, .ref mwy, .ref mwn, .ref mma, .ref mwi, .ref mnu, .ref mmv]))] := hD
    refine lv_iload_n hx hb dX10_end_21 rfl (lv_at hl 1 rfl) ?_
    have hP9 := hP.sub (ws' := [(o0, .inr (8, [.int x_th, .ref mwo, .ref mim, .ref mhi, .ref mlu, .ref mtp, .int a1, .ref mfv, .int x_sz, .int x_at, .int x_fr, .int x_to, .int x_va, .int x_fk, .int x_fp, .ref mfr, .ref mwt, .int x_wt, .int x_op, .int x_jo, .ref mfg, .ref mpl, .long x_dr, .ref mtm, .ref mfa, .ref mqu, .ref mmo, .ref mwy, .ref mwn, .ref mma, .ref mwi, .ref mnu, .ref mmv]))]) [0] rfl
    have hD9 := hD.sub (ws' := [(o0, .inr (8, [.int x_th, .ref mwo, .ref mim, .ref mhi, .ref mlu, .ref mtp, .int a1, .ref mfv, .int x_sz, .int x_at, .int x_fr, .int x_to, .int x_va, .int x_fk, .int x_fp, .ref mfr, .ref mwt, .int x_wt, .int x_op, .int x_jo, .ref mfg, .ref mpl, .long x_dr, .ref mtm, .ref mfa, .ref mqu, .ref mmo, .ref mwy, .ref mwn, .ref mma, .ref mwi, .ref mnu, .ref mmv]))]) [0] (by decide) rfl
    have hK9 := hK.sub (tys' := []) [] rfl
    exact W.iret (v := a1) hx hb hr (fun t ht hW => ⟨⟨a1, (), rfl, (rg_w b_a1 (by decide) (by decide)), a1, b_a1, by rw [ht]; exact hP9, va_K.moved hW.alike hK9, hD9⟩, hS.F ht⟩) hS.2.2 dX10_end_22
  ·
    have n_c_9 : (r_8.toInt : Int) = 0 := c_eq rfl (by decide) c_9
    have b_r_8 : (0 : Int) ≤ r_8.toInt ∧ r_8.toInt ≤ 0 := r_eq1 b_r_8 (by decide : (0 : Int) ≤ (0 : Int32).toInt ∧ (0 : Int32).toInt ≤ 0) n_c_9 (by decide)
    refine lv_iconst (v := (-1)) hx hb dX10_end_14 (by decide) ?_
    have hP9 := hP.sub (ws' := [(o0, .inr (8, [.int x_th, .ref mwo, .ref mim, .ref mhi, .ref mlu, .ref mtp, .int x_td, .ref mfv, .int x_sz, .int x_at, .int x_fr, .int x_to, .int x_va, .int x_fk, .int x_fp, .ref mfr, .ref mwt, .int x_wt, .int x_op, .int x_jo, .ref mfg, .ref mpl, .long x_dr, .ref mtm, .ref mfa, .ref mqu, .ref mmo, .ref mwy, .ref mwn, .ref mma, .ref mwi, .ref mnu, .ref mmv]))]) [0] rfl
    have hD9 := hD.sub (ws' := [(o0, .inr (8, [.int x_th, .ref mwo, .ref mim, .ref mhi, .ref mlu, .ref mtp, .int x_td, .ref mfv, .int x_sz, .int x_at, .int x_fr, .int x_to, .int x_va, .int x_fk, .int x_fp, .ref mfr, .ref mwt, .int x_wt, .int x_op, .int x_jo, .ref mfg, .ref mpl, .long x_dr, .ref mtm, .ref mfa, .ref mqu, .ref mmo, .ref mwy, .ref mwn, .ref mma, .ref mwi, .ref mnu, .ref mmv]))]) [0] (by decide) rfl
    have hK9 := hK.sub (tys' := []) [] rfl
    exact W.iret (v := (-1)) hx hb hr (fun t ht hW => ⟨⟨(-1), (), rfl, (rg_w (by decide : (-1 : Int) ≤ ((-1) : Int32).toInt ∧ ((-1) : Int32).toInt ≤ -1) (by decide) (by decide)), x_td, b_x_td, by rw [ht]; exact hP9, va_K.moved hW.alike hK9, hD9⟩, hS.F ht⟩) hS.2.2 dX10_end_15
theorem dX10_fault_0 : decode cX10_fault 0 = .ok (.iload_n 1, 1) := by decide +kernel
theorem dX10_fault_1 : decode cX10_fault 1 = .ok (.ifCond .ne 10, 3) := by decide +kernel
theorem dX10_fault_4 : decode cX10_fault 4 = .ok (.aload_n 0, 1) := by decide +kernel
theorem dX10_fault_5 : decode cX10_fault 5 = .ok (.getfield 134, 3) := by decide +kernel
theorem dX10_fault_8 : decode cX10_fault 8 = .ok (.goto 16, 3) := by decide +kernel
theorem dX10_fault_11 : decode cX10_fault 11 = .ok (.iload_n 1, 1) := by decide +kernel
theorem dX10_fault_12 : decode cX10_fault 12 = .ok (.iconst 1, 1) := by decide +kernel
theorem dX10_fault_13 : decode cX10_fault 13 = .ok (.if_icmp .ne 10, 3) := by decide +kernel
theorem dX10_fault_16 : decode cX10_fault 16 = .ok (.aload_n 0, 1) := by decide +kernel
theorem dX10_fault_17 : decode cX10_fault 17 = .ok (.getfield 30, 3) := by decide +kernel
theorem dX10_fault_20 : decode cX10_fault 20 = .ok (.goto 4, 3) := by decide +kernel
theorem dX10_fault_23 : decode cX10_fault 23 = .ok (.iconst (-1), 1) := by decide +kernel
theorem dX10_fault_24 : decode cX10_fault 24 = .ok (.ireturn, 1) := by decide +kernel
def uX10_fault : List Cond := .code yX10_fault cX10_fault 2 (some .int) :: ([.fieldLink RX10 30 "LuckyTicketModel" "faultPlace" "I", .fieldLink RX10 134 "LuckyTicketModel" "faultKind" "I"] ++ wsX100)
theorem iX10_fault_X10 : ∀ w ∈ wsX100, w ∈ uX10_fault := fun _ h => List.mem_cons_of_mem _ (List.mem_append_right _ h)
set_option maxHeartbeats 4000000 in
set_option maxRecDepth 100000 in
theorem kX10_fault (l : Launch) (dC : Nat → ClassId) (dI : Nat → Nat → Nat) (o0 : Nat) (x_th : Int32) (mwo : Nat) (mim : Nat) (mhi : Nat) (mlu : Nat) (mtp : Nat) (x_td : Int32) (mfv : Nat) (x_sz : Int32) (x_at : Int32) (x_fr : Int32) (x_to : Int32) (x_va : Int32) (x_fk : Int32) (x_fp : Int32) (mfr : Nat) (mwt : Nat) (x_wt : Int32) (x_op : Int32) (x_jo : Int32) (mfg : Nat) (mpl : Nat) (x_dr : Int64) (mtm : Nat) (mfa : Nat) (mqu : Nat) (mmo : Nat) (mwy : Nat) (mwn : Nat) (mma : Nat) (mwi : Nat) (mnu : Nat) (mmv : Nat) (a1 : Int32) : Met l yX10_fault uX10_fault ({ frames := 0, cells := 0, slots := 0, locals := 0 }) (va_Pc [.ref o0, .int a1] (pw (dC, dI) vwCl [(o0, .inr (8, [.int x_th, .ref mwo, .ref mim, .ref mhi, .ref mlu, .ref mtp, .int x_td, .ref mfv, .int x_sz, .int x_at, .int x_fr, .int x_to, .int x_va, .int x_fk, .int x_fp, .ref mfr, .ref mwt, .int x_wt, .int x_op, .int x_jo, .ref mfg, .ref mpl, .long x_dr, .ref mtm, .ref mfa, .ref mqu, .ref mmo, .ref mwy, .ref mwn, .ref mma, .ref mwi, .ref mnu, .ref mmv]))] [])) (vp_Si (fun r => True)) 0 0 (fun _ => False) := by
  refine Met.ofW (cc := cX10_fault) (maxL := 2) (ret := (some .int)) (by decide) rfl ?_
  intro p e s m args below meth c s₁ B hml hv
  obtain ⟨rfl, hP, hK, hN⟩ := hv
  have hx := B.exec
  have hb := B.bytes
  have hr := B.returns
  have hts := atoms_spec (ws := uX10_fault) B.pre
  have hown : s.vm.findClass RX10 = some m.cls := findClass_of_methodNamed B.named
  have hlocks := B.notSynchronized
  have hl := lv_entry ([.ref o0, .int a1]) (n := 2) (Nat.le_of_ble_eq_true rfl)
  rw [lg_entry_eq]
  generalize (lg_sl ([.ref o0, .int a1]) ++ List.replicate (2 - (lg_sl ([.ref o0, .int a1])).length) Slot.unset).toArray = ls at hl ⊢
  have hl : lv_has ls 2 [(0, .ref o0), (1, .int a1)] := hl
  refine lv_iload_n hx hb dX10_fault_0 rfl (lv_at hl 1 rfl) ?_
  refine lv_if_ne (tgt := 11) hx hb dX10_fault_1 (by decide) (fun c_3 => ?_) (fun c_3 => ?_)
  ·
    have n_c_3 : (a1.toInt : Int) ≠ 0 := c_ne rfl (by decide) c_3
    refine lv_iload_n hx hb dX10_fault_11 rfl (lv_at hl 1 rfl) ?_
    refine lv_iconst (v := 1) hx hb dX10_fault_12 (by decide) ?_
    refine lv_icmp_ne (tgt := 23) hx hb dX10_fault_13 (by decide) (fun c_4 => ?_) (fun c_4 => ?_)
    ·
      have n_c_4 : (a1.toInt : Int) ≠ 1 := c_ne rfl (by decide) c_4
      refine lv_iconst (v := (-1)) hx hb dX10_fault_23 (by decide) ?_
      exact W.iret (v := (-1)) hx hb hr (fun t ht hW => ⟨(-1), rfl, trivial, ht⟩) t_nil dX10_fault_24
    ·
      have n_c_4 : (a1.toInt : Int) = 1 := c_eq rfl (by decide) c_4
      have b_a1 : (1 : Int) ≤ a1.toInt ∧ a1.toInt ≤ 1 := r_eq1 (ti_rng a1) (by decide : (1 : Int) ≤ (1 : Int32).toInt ∧ (1 : Int32).toInt ≤ 1) n_c_4 (by decide)
      refine lv_aload_n hx hb dX10_fault_16 rfl (lv_at hl 0 rfl) ?_
      refine va_get (D := (dC, dI)) (ci := 8) (v := .int x_fp) (C := RX10) (T := TX10) (N := 33) hx hb hts iX10_fault_X10 hown hK hP 0 rfl rfl 14 (by decide) (hts (.fieldLink RX10 30 "LuckyTicketModel" "faultPlace" "I") (List.mem_of_getElem? (i := 1) rfl)) (fun _ h9 => h9) rfl dX10_fault_17 ?_
      refine lv_goto (tgt := 24) hx hb dX10_fault_20 (by decide) ?_
      exact W.iret (v := x_fp) hx hb hr (fun t ht hW => ⟨x_fp, rfl, trivial, ht⟩) t_nil dX10_fault_24
  ·
    have n_c_3 : (a1.toInt : Int) = 0 := c_eq rfl (by decide) c_3
    have b_a1 : (0 : Int) ≤ a1.toInt ∧ a1.toInt ≤ 0 := r_eq1 (ti_rng a1) (by decide : (0 : Int) ≤ (0 : Int32).toInt ∧ (0 : Int32).toInt ≤ 0) n_c_3 (by decide)
    refine lv_aload_n hx hb dX10_fault_4 rfl (lv_at hl 0 rfl) ?_
    refine va_get (D := (dC, dI)) (ci := 8) (v := .int x_fk) (C := RX10) (T := TX10) (N := 33) hx hb hts iX10_fault_X10 hown hK hP 0 rfl rfl 13 (by decide) (hts (.fieldLink RX10 134 "LuckyTicketModel" "faultKind" "I") (List.mem_of_getElem? (i := 2) rfl)) (fun _ h9 => h9) rfl dX10_fault_5 ?_
    refine lv_goto (tgt := 24) hx hb dX10_fault_8 (by decide) ?_
    exact W.iret (v := x_fk) hx hb hr (fun t ht hW => ⟨x_fk, rfl, trivial, ht⟩) t_nil dX10_fault_24
theorem dX10_row_0 : decode cX10_row 0 = .ok (.iload_n 1, 1) := by decide +kernel
theorem dX10_row_1 : decode cX10_row 1 = .ok (.invokestatic 369, 3) := by decide +kernel
theorem dX10_row_4 : decode cX10_row 4 = .ok (.ifCond .eq 21, 3) := by decide +kernel
theorem dX10_row_7 : decode cX10_row 7 = .ok (.iload_n 2, 1) := by decide +kernel
theorem dX10_row_8 : decode cX10_row 8 = .ok (.i2l, 1) := by decide +kernel
theorem dX10_row_9 : decode cX10_row 9 = .ok (.lconst 0, 1) := by decide +kernel
theorem dX10_row_10 : decode cX10_row 10 = .ok (.ldc2_w 375, 3) := by decide +kernel
theorem dX10_row_13 : decode cX10_row 13 = .ok (.invokestatic 82, 3) := by decide +kernel
theorem dX10_row_16 : decode cX10_row 16 = .ok (.ifCond .eq 9, 3) := by decide +kernel
theorem dX10_row_19 : decode cX10_row 19 = .ok (.iload_n 3, 1) := by decide +kernel
theorem dX10_row_20 : decode cX10_row 20 = .ok (.bipush 60, 2) := by decide +kernel
theorem dX10_row_22 : decode cX10_row 22 = .ok (.if_icmp .le 6, 3) := by decide +kernel
theorem dX10_row_25 : decode cX10_row 25 = .ok (.bipush (-2), 2) := by decide +kernel
theorem dX10_row_27 : decode cX10_row 27 = .ok (.ireturn, 1) := by decide +kernel
theorem dX10_row_28 : decode cX10_row 28 = .ok (.iload_n 3, 1) := by decide +kernel
theorem dX10_row_29 : decode cX10_row 29 = .ok (.ifCond .ge 6, 3) := by decide +kernel
theorem dX10_row_32 : decode cX10_row 32 = .ok (.bipush (-3), 2) := by decide +kernel
theorem dX10_row_34 : decode cX10_row 34 = .ok (.ireturn, 1) := by decide +kernel
theorem dX10_row_35 : decode cX10_row 35 = .ok (.aload_n 0, 1) := by decide +kernel
theorem dX10_row_36 : decode cX10_row 36 = .ok (.getfield 65, 3) := by decide +kernel
theorem dX10_row_39 : decode cX10_row 39 = .ok (.iload_n 1, 1) := by decide +kernel
theorem dX10_row_40 : decode cX10_row 40 = .ok (.iload_n 3, 1) := by decide +kernel
theorem dX10_row_41 : decode cX10_row 41 = .ok (.iastore, 1) := by decide +kernel
theorem dX10_row_42 : decode cX10_row 42 = .ok (.aload_n 0, 1) := by decide +kernel
theorem dX10_row_43 : decode cX10_row 43 = .ok (.getfield 68, 3) := by decide +kernel
theorem dX10_row_46 : decode cX10_row 46 = .ok (.iload_n 1, 1) := by decide +kernel
theorem dX10_row_47 : decode cX10_row 47 = .ok (.iload_n 2, 1) := by decide +kernel
theorem dX10_row_48 : decode cX10_row 48 = .ok (.iastore, 1) := by decide +kernel
theorem dX10_row_49 : decode cX10_row 49 = .ok (.iconst 0, 1) := by decide +kernel
theorem dX10_row_50 : decode cX10_row 50 = .ok (.istore 4, 2) := by decide +kernel
theorem dX10_row_52 : decode cX10_row 52 = .ok (.iload 4, 2) := by decide +kernel
theorem dX10_row_54 : decode cX10_row 54 = .ok (.bipush 60, 2) := by decide +kernel
theorem dX10_row_56 : decode cX10_row 56 = .ok (.if_icmp .ge 22, 3) := by decide +kernel
theorem dX10_row_59 : decode cX10_row 59 = .ok (.aload_n 0, 1) := by decide +kernel
theorem dX10_row_60 : decode cX10_row 60 = .ok (.getfield 71, 3) := by decide +kernel
theorem dX10_row_63 : decode cX10_row 63 = .ok (.bipush 60, 2) := by decide +kernel
theorem dX10_row_65 : decode cX10_row 65 = .ok (.iload_n 1, 1) := by decide +kernel
theorem dX10_row_66 : decode cX10_row 66 = .ok (.imul, 1) := by decide +kernel
theorem dX10_row_67 : decode cX10_row 67 = .ok (.iload 4, 2) := by decide +kernel
theorem dX10_row_69 : decode cX10_row 69 = .ok (.iadd, 1) := by decide +kernel
theorem dX10_row_70 : decode cX10_row 70 = .ok (.lconst 0, 1) := by decide +kernel
theorem dX10_row_71 : decode cX10_row 71 = .ok (.lastore, 1) := by decide +kernel
theorem dX10_row_72 : decode cX10_row 72 = .ok (.iinc 4 1, 3) := by decide +kernel
theorem dX10_row_75 : decode cX10_row 75 = .ok (.goto (-23), 3) := by decide +kernel
theorem dX10_row_78 : decode cX10_row 78 = .ok (.iconst 0, 1) := by decide +kernel
theorem dX10_row_79 : decode cX10_row 79 = .ok (.ireturn, 1) := by decide +kernel
def uX10_row : List Cond := .code yX10_row cX10_row 5 (some .int) :: ([.methodLink RX10 369 yX10_isSlot, .static yX10_isSlot, .initialized RX10, .code yX10_isSlot cX10_isSlot 1 (some .boolean), .constantLong RX10 375 (3), .methodLink RX10 82 yX10_in, .static yX10_in, .code yX10_in cX10_in 6 (some .boolean), .fieldLink RX10 65 "LuckyTicketModel" "many" "[I", .fieldLink RX10 68 "LuckyTicketModel" "width" "[I", .fieldLink RX10 71 "LuckyTicketModel" "numbers" "[J"] ++ wsX100)
theorem iX10_row_X10 : ∀ w ∈ wsX100, w ∈ uX10_row := fun _ h => List.mem_cons_of_mem _ (List.mem_append_right _ h)
set_option maxRecDepth 20000 in
theorem gX10_row__X10_isSlot_S369 : GoodIn uX10_row (va_wsS RX10 369 yX10_isSlot uX10_isSlot) := goodIn_p _ [4, 8] rfl (by decide +kernel)
set_option maxRecDepth 20000 in
theorem gX10_row__X10_in_S82 : GoodIn uX10_row (va_wsS RX10 82 yX10_in uX10_in) := goodIn_p _ [8] rfl (by decide +kernel)
set_option maxHeartbeats 4000000 in
set_option maxRecDepth 100000 in
theorem kX10_row (l : Launch) (dC : Nat → ClassId) (dI : Nat → Nat → Nat) (o0 : Nat) (x_th : Int32) (mwo : Nat) (mim : Nat) (mhi : Nat) (mlu : Nat) (mtp : Nat) (x_td : Int32) (mfv : Nat) (x_sz : Int32) (x_at : Int32) (x_fr : Int32) (x_to : Int32) (x_va : Int32) (x_fk : Int32) (x_fp : Int32) (mfr : Nat) (mwt : Nat) (x_wt : Int32) (x_op : Int32) (x_jo : Int32) (mfg : Nat) (mpl : Nat) (x_dr : Int64) (mtm : Nat) (mfa : Nat) (mqu : Nat) (mmo : Nat) (mwy : Nat) (mwn : Nat) (mma : Nat) (mwi : Nat) (mnu : Nat) (mmv : Nat) (c_ma : ClassId) (c_wi : ClassId) (c_nu : ClassId) (w_ma : Nat → Int32) (w_wi : Nat → Int32) (w_nu : Nat → Int64) (a1 : Int32) (a2 : Int32) (a3 : Int32) (sz : Nat) (ha_mma : rg w_ma 4 (-1) 60) (ha_mwi : rg w_wi 4 0 3) : Met l yX10_row uX10_row ({ frames := 2, cells := 0, slots := 0, locals := 45 }) (va_Pc [.ref o0, .int a1, .int a2, .int a3] (hw (dC, dI) vwCl [(o0, .inr (8, [.int x_th, .ref mwo, .ref mim, .ref mhi, .ref mlu, .ref mtp, .int x_td, .ref mfv, .int x_sz, .int x_at, .int x_fr, .int x_to, .int x_va, .int x_fk, .int x_fp, .ref mfr, .ref mwt, .int x_wt, .int x_op, .int x_jo, .ref mfg, .ref mpl, .long x_dr, .ref mtm, .ref mfa, .ref mqu, .ref mmo, .ref mwy, .ref mwn, .ref mma, .ref mwi, .ref mnu, .ref mmv])), (mma, .inl (c_ma, 4, .inl w_ma)), (mwi, .inl (c_wi, 4, .inl w_wi)), (mnu, .inl (c_nu, 240, .inr (.inl w_nu)))] [(c_ma, .int), (c_wi, .int), (c_nu, .long)] sz)) (va_Qi (fun (r : Int32) (_ : Unit) => ((-3 : Int) ≤ r.toInt ∧ r.toInt ≤ 0)) (fun (_ : Unit) t => ∃ (o0_ : Nat → Int32) (o1_ : Nat → Int32) (o2_ : Nat → Int64), (rg o0_ 4 (-1) 60) ∧ (rg o1_ 4 0 3) ∧ va_P (dC, dI) vwCl [(o0, .inr (8, [.int x_th, .ref mwo, .ref mim, .ref mhi, .ref mlu, .ref mtp, .int x_td, .ref mfv, .int x_sz, .int x_at, .int x_fr, .int x_to, .int x_va, .int x_fk, .int x_fp, .ref mfr, .ref mwt, .int x_wt, .int x_op, .int x_jo, .ref mfg, .ref mpl, .long x_dr, .ref mtm, .ref mfa, .ref mqu, .ref mmo, .ref mwy, .ref mwn, .ref mma, .ref mwi, .ref mnu, .ref mmv])), (mma, .inl (c_ma, 4, .inl o0_)), (mwi, .inl (c_wi, 4, .inl o1_)), (mnu, .inl (c_nu, 240, .inr (.inl o2_)))] t.heap ∧ va_K (dC, dI) vwCl [(c_ma, .int), (c_wi, .int), (c_nu, .long)] t ∧ va_D (va_A [(o0, .inr (8, [.int x_th, .ref mwo, .ref mim, .ref mhi, .ref mlu, .ref mtp, .int x_td, .ref mfv, .int x_sz, .int x_at, .int x_fr, .int x_to, .int x_va, .int x_fk, .int x_fp, .ref mfr, .ref mwt, .int x_wt, .int x_op, .int x_jo, .ref mfg, .ref mpl, .long x_dr, .ref mtm, .ref mfa, .ref mqu, .ref mmo, .ref mwy, .ref mwn, .ref mma, .ref mwi, .ref mnu, .ref mmv])), (mma, .inl (c_ma, 4, .inl w_ma)), (mwi, .inl (c_wi, 4, .inl w_wi)), (mnu, .inl (c_nu, 240, .inr (.inl w_nu)))] sz) [(o0, .inr (8, [.int x_th, .ref mwo, .ref mim, .ref mhi, .ref mlu, .ref mtp, .int x_td, .ref mfv, .int x_sz, .int x_at, .int x_fr, .int x_to, .int x_va, .int x_fk, .int x_fp, .ref mfr, .ref mwt, .int x_wt, .int x_op, .int x_jo, .ref mfg, .ref mpl, .long x_dr, .ref mtm, .ref mfa, .ref mqu, .ref mmo, .ref mwy, .ref mwn, .ref mma, .ref mwi, .ref mnu, .ref mmv])), (mma, .inl (c_ma, 4, .inl o0_)), (mwi, .inl (c_wi, 4, .inl o1_)), (mnu, .inl (c_nu, 240, .inr (.inl o2_)))]) (va_A [(o0, .inr (8, [.int x_th, .ref mwo, .ref mim, .ref mhi, .ref mlu, .ref mtp, .int x_td, .ref mfv, .int x_sz, .int x_at, .int x_fr, .int x_to, .int x_va, .int x_fk, .int x_fp, .ref mfr, .ref mwt, .int x_wt, .int x_op, .int x_jo, .ref mfg, .ref mpl, .long x_dr, .ref mtm, .ref mfa, .ref mqu, .ref mmo, .ref mwy, .ref mwn, .ref mma, .ref mwi, .ref mnu, .ref mmv])), (mma, .inl (c_ma, 4, .inl w_ma)), (mwi, .inl (c_wi, 4, .inl w_wi)), (mnu, .inl (c_nu, 240, .inr (.inl w_nu)))] sz)) 0 0 (va_A [(o0, .inr (8, [.int x_th, .ref mwo, .ref mim, .ref mhi, .ref mlu, .ref mtp, .int x_td, .ref mfv, .int x_sz, .int x_at, .int x_fr, .int x_to, .int x_va, .int x_fk, .int x_fp, .ref mfr, .ref mwt, .int x_wt, .int x_op, .int x_jo, .ref mfg, .ref mpl, .long x_dr, .ref mtm, .ref mfa, .ref mqu, .ref mmo, .ref mwy, .ref mwn, .ref mma, .ref mwi, .ref mnu, .ref mmv])), (mma, .inl (c_ma, 4, .inl w_ma)), (mwi, .inl (c_wi, 4, .inl w_wi)), (mnu, .inl (c_nu, 240, .inr (.inl w_nu)))] sz) := by
  refine Met.ofW (cc := cX10_row) (maxL := 5) (ret := (some .int)) (by decide) rfl ?_
  intro p e s m args below meth c s₁ B hml hv
  obtain ⟨rfl, hsz, hP, hK, hD0, hN⟩ := hv
  have hx := B.exec
  have hb := B.bytes
  have hr := B.returns
  have hts := atoms_spec (ws := uX10_row) B.pre
  have hown : s.vm.findClass RX10 = some m.cls := findClass_of_methodNamed B.named
  have hlocks := B.notSynchronized
  subst hsz
  have hD := hD0.self (sz := s.heap.size)
  generalize hAe : va_A [(o0, .inr (8, [.int x_th, .ref mwo, .ref mim, .ref mhi, .ref mlu, .ref mtp, .int x_td, .ref mfv, .int x_sz, .int x_at, .int x_fr, .int x_to, .int x_va, .int x_fk, .int x_fp, .ref mfr, .ref mwt, .int x_wt, .int x_op, .int x_jo, .ref mfg, .ref mpl, .long x_dr, .ref mtm, .ref mfa, .ref mqu, .ref mmo, .ref mwy, .ref mwn, .ref mma, .ref mwi, .ref mnu, .ref mmv])), (mma, .inl (c_ma, 4, .inl w_ma)), (mwi, .inl (c_wi, 4, .inl w_wi)), (mnu, .inl (c_nu, 240, .inr (.inl w_nu)))] s.heap.size = A at hD ⊢
  have hA : ∀ q : Nat, s.heap.size ≤ q → A q := fun q h => by rw [← hAe]; exact Or.inr h
  have hS : va_S A s.heap s.heap [] := va_S.rf
  have hP : va_P (dC, dI) vwCl [(o0, .inr (8, [.int x_th, .ref mwo, .ref mim, .ref mhi, .ref mlu, .ref mtp, .int x_td, .ref mfv, .int x_sz, .int x_at, .int x_fr, .int x_to, .int x_va, .int x_fk, .int x_fp, .ref mfr, .ref mwt, .int x_wt, .int x_op, .int x_jo, .ref mfg, .ref mpl, .long x_dr, .ref mtm, .ref mfa, .ref mqu, .ref mmo, .ref mwy, .ref mwn, .ref mma, .ref mwi, .ref mnu, .ref mmv])), (mma, .inl (c_ma, 4, .inl w_ma)), (mwi, .inl (c_wi, 4, .inl w_wi)), (mnu, .inl (c_nu, 240, .inr (.inl w_nu)))] s.heap := hP
  have hl := lv_entry ([.ref o0, .int a1, .int a2, .int a3]) (n := 5) (Nat.le_of_ble_eq_true rfl)
  rw [lg_entry_eq]
  generalize (lg_sl ([.ref o0, .int a1, .int a2, .int a3]) ++ List.replicate (5 - (lg_sl ([.ref o0, .int a1, .int a2, .int a3])).length) Slot.unset).toArray = ls at hl ⊢
  have hl : lv_has ls 5 [(0, .ref o0), (1, .int a1), (2, .int a2), (3, .int a3)] := hl
  refine lv_iload_n hx hb dX10_row_0 rfl (lv_at hl 1 rfl) ?_
  refine vp_callSi (W.runS (As := [.int a1]) (rest := []) ⟨hx, hb, hml, hown, hts⟩ (kX10_isSlot l dC dI a1 ) (va_cwS 1 hts gX10_row__X10_isSlot_S369 rfl rfl rfl (by decide +kernel) ⟨lel 2 2 rfl, lel 45 45 rfl⟩) ⟨pn_fb, pn_use⟩ rfl rfl hl.1 rfl (lv_room (Nat.le_of_ble_eq_true rfl)) dX10_row_1 ⟨lel 0 0 rfl, lel 0 0 rfl⟩) (fun r_51 h_r_51 => ?_)
  obtain ⟨b_r_51, nz_r_51⟩ := h_r_51
  have b_r_51 : (0 : Int) ≤ r_51.toInt ∧ r_51.toInt ≤ 1 := b_r_51
  refine lv_if_eq (tgt := 25) hx hb dX10_row_4 (by decide) (fun c_52 => ?_) (fun c_52 => ?_)
  ·
    have n_c_52 : (r_51.toInt : Int) = 0 := c_eq rfl (by decide) c_52
    have b_r_51 : (0 : Int) ≤ r_51.toInt ∧ r_51.toInt ≤ 0 := r_eq1 b_r_51 (by decide : (0 : Int) ≤ (0 : Int32).toInt ∧ (0 : Int32).toInt ≤ 0) n_c_52 (by decide)
    refine lv_bipush (v := (-2)) hx hb dX10_row_25 (by decide) ?_
    have hP9 := hP.sub (ws' := [(o0, .inr (8, [.int x_th, .ref mwo, .ref mim, .ref mhi, .ref mlu, .ref mtp, .int x_td, .ref mfv, .int x_sz, .int x_at, .int x_fr, .int x_to, .int x_va, .int x_fk, .int x_fp, .ref mfr, .ref mwt, .int x_wt, .int x_op, .int x_jo, .ref mfg, .ref mpl, .long x_dr, .ref mtm, .ref mfa, .ref mqu, .ref mmo, .ref mwy, .ref mwn, .ref mma, .ref mwi, .ref mnu, .ref mmv])), (mma, .inl (c_ma, 4, .inl w_ma)), (mwi, .inl (c_wi, 4, .inl w_wi)), (mnu, .inl (c_nu, 240, .inr (.inl w_nu)))]) [0, 1, 2, 3] rfl
    have hD9 := hD.sub (ws' := [(o0, .inr (8, [.int x_th, .ref mwo, .ref mim, .ref mhi, .ref mlu, .ref mtp, .int x_td, .ref mfv, .int x_sz, .int x_at, .int x_fr, .int x_to, .int x_va, .int x_fk, .int x_fp, .ref mfr, .ref mwt, .int x_wt, .int x_op, .int x_jo, .ref mfg, .ref mpl, .long x_dr, .ref mtm, .ref mfa, .ref mqu, .ref mmo, .ref mwy, .ref mwn, .ref mma, .ref mwi, .ref mnu, .ref mmv])), (mma, .inl (c_ma, 4, .inl w_ma)), (mwi, .inl (c_wi, 4, .inl w_wi)), (mnu, .inl (c_nu, 240, .inr (.inl w_nu)))]) [0, 1, 2, 3] (by decide) rfl
    have hK9 := hK.sub (tys' := [(c_ma, .int), (c_wi, .int), (c_nu, .long)]) [0, 1, 2] rfl
    exact W.iret (v := (-2)) hx hb hr (fun t ht hW => ⟨⟨(-2), (), rfl, (rg_w (by decide : (-2 : Int) ≤ ((-2) : Int32).toInt ∧ ((-2) : Int32).toInt ≤ -2) (by decide) (by decide)), w_ma, w_wi, w_nu, ha_mma, ha_mwi, by rw [ht]; exact hP9, va_K.moved hW.alike hK9, hD9⟩, hS.F ht⟩) hS.2.2 dX10_row_27
  ·
    have n_c_52 : (r_51.toInt : Int) ≠ 0 := c_ne rfl (by decide) c_52
    have b_r_51 : (1 : Int) ≤ r_51.toInt ∧ r_51.toInt ≤ 1 := r_ne1 b_r_51 (by decide : (0 : Int) ≤ (0 : Int32).toInt ∧ (0 : Int32).toInt ≤ 0) n_c_52 (by decide)
    obtain ⟨b_a1, g_53⟩ := nz_r_51 c_52
    refine lv_iload_n hx hb dX10_row_7 rfl (lv_at hl 2 rfl) ?_
    obtain ⟨z_54, e_z_54⟩ : ∃ y : Int64, y = a2.toInt64 := ⟨_, rfl⟩
    refine lv_i2l (v := z_54) hx hb dX10_row_8 e_z_54.symm ?_
    obtain ⟨q_z_54, b_z_54⟩ := ti_i2l e_z_54 (ti_rng a2)
    refine lv_lconst (v := 0) hx hb dX10_row_9 (by decide) ?_
    refine lv_ldc2 (v := 3) hx hb hown (hts (.constantLong RX10 375 (3)) (List.mem_of_getElem? (i := 5) rfl)) dX10_row_10 ?_
    refine vp_callSi (W.runS (As := [.long z_54, .long 0, .long 3]) (rest := []) ⟨hx, hb, hml, hown, hts⟩ (kX10_in l dC dI z_54 0 3 ) (va_cwS 3 hts gX10_row__X10_in_S82 rfl rfl rfl (by decide +kernel) ⟨lel 1 2 rfl, lel 25 45 rfl⟩) ⟨pn_fb, pn_use⟩ rfl rfl hl.1 rfl (lv_room (Nat.le_of_ble_eq_true rfl)) dX10_row_13 ⟨lel 0 0 rfl, lel 0 0 rfl⟩) (fun r_55 h_r_55 => ?_)
    obtain ⟨b_r_55, nz_r_55⟩ := h_r_55
    have b_r_55 : (0 : Int) ≤ r_55.toInt ∧ r_55.toInt ≤ 1 := b_r_55
    refine lv_if_eq (tgt := 25) hx hb dX10_row_16 (by decide) (fun c_56 => ?_) (fun c_56 => ?_)
    ·
      have n_c_56 : (r_55.toInt : Int) = 0 := c_eq rfl (by decide) c_56
      have b_r_55 : (0 : Int) ≤ r_55.toInt ∧ r_55.toInt ≤ 0 := r_eq1 b_r_55 (by decide : (0 : Int) ≤ (0 : Int32).toInt ∧ (0 : Int32).toInt ≤ 0) n_c_56 (by decide)
      refine lv_bipush (v := (-2)) hx hb dX10_row_25 (by decide) ?_
      have hP9 := hP.sub (ws' := [(o0, .inr (8, [.int x_th, .ref mwo, .ref mim, .ref mhi, .ref mlu, .ref mtp, .int x_td, .ref mfv, .int x_sz, .int x_at, .int x_fr, .int x_to, .int x_va, .int x_fk, .int x_fp, .ref mfr, .ref mwt, .int x_wt, .int x_op, .int x_jo, .ref mfg, .ref mpl, .long x_dr, .ref mtm, .ref mfa, .ref mqu, .ref mmo, .ref mwy, .ref mwn, .ref mma, .ref mwi, .ref mnu, .ref mmv])), (mma, .inl (c_ma, 4, .inl w_ma)), (mwi, .inl (c_wi, 4, .inl w_wi)), (mnu, .inl (c_nu, 240, .inr (.inl w_nu)))]) [0, 1, 2, 3] rfl
      have hD9 := hD.sub (ws' := [(o0, .inr (8, [.int x_th, .ref mwo, .ref mim, .ref mhi, .ref mlu, .ref mtp, .int x_td, .ref mfv, .int x_sz, .int x_at, .int x_fr, .int x_to, .int x_va, .int x_fk, .int x_fp, .ref mfr, .ref mwt, .int x_wt, .int x_op, .int x_jo, .ref mfg, .ref mpl, .long x_dr, .ref mtm, .ref mfa, .ref mqu, .ref mmo, .ref mwy, .ref mwn, .ref mma, .ref mwi, .ref mnu, .ref mmv])), (mma, .inl (c_ma, 4, .inl w_ma)), (mwi, .inl (c_wi, 4, .inl w_wi)), (mnu, .inl (c_nu, 240, .inr (.inl w_nu)))]) [0, 1, 2, 3] (by decide) rfl
      have hK9 := hK.sub (tys' := [(c_ma, .int), (c_wi, .int), (c_nu, .long)]) [0, 1, 2] rfl
      exact W.iret (v := (-2)) hx hb hr (fun t ht hW => ⟨⟨(-2), (), rfl, (rg_w (by decide : (-2 : Int) ≤ ((-2) : Int32).toInt ∧ ((-2) : Int32).toInt ≤ -2) (by decide) (by decide)), w_ma, w_wi, w_nu, ha_mma, ha_mwi, by rw [ht]; exact hP9, va_K.moved hW.alike hK9, hD9⟩, hS.F ht⟩) hS.2.2 dX10_row_27
    ·
      have n_c_56 : (r_55.toInt : Int) ≠ 0 := c_ne rfl (by decide) c_56
      have b_r_55 : (1 : Int) ≤ r_55.toInt ∧ r_55.toInt ≤ 1 := r_ne1 b_r_55 (by decide : (0 : Int) ≤ (0 : Int32).toInt ∧ (0 : Int32).toInt ≤ 0) n_c_56 (by decide)
      have g_57 := nz_r_55 c_56
      have lt0_g_57 := (by decide : (0 : Int64).toInt = 0)
      have lt1_g_57 := (by decide : (3 : Int64).toInt = 3)
      have b_z_54 : (0 : Int) ≤ z_54.toInt ∧ z_54.toInt ≤ 3 := by
        have q0 := b_z_54
        have q1 := (by decide : (0 : Int) ≤ (0 : Int64).toInt ∧ (0 : Int64).toInt ≤ 0)
        have q2 := (by decide : (3 : Int) ≤ (3 : Int64).toInt ∧ (3 : Int64).toInt ≤ 3)
        omega
      have b_a2 : (0 : Int) ≤ a2.toInt ∧ a2.toInt ≤ 3 := by
        have q0 := b_z_54; have q1 := q_z_54; have q2 := (ti_rng a2); omega
      refine lv_iload_n hx hb dX10_row_19 rfl (lv_at hl 3 rfl) ?_
      refine lv_bipush (v := 60) hx hb dX10_row_20 (by decide) ?_
      refine lv_icmp_le (tgt := 28) hx hb dX10_row_22 (by decide) (fun c_58 => ?_) (fun c_58 => ?_)
      ·
        have n_c_58 : (a3.toInt : Int) ≤ 60 := c_le rfl (by decide) c_58
        have b_a3 : (-2147483648 : Int) ≤ a3.toInt ∧ a3.toInt ≤ 60 := r_le1 (ti_rng a3) (by decide : (60 : Int) ≤ (60 : Int32).toInt ∧ (60 : Int32).toInt ≤ 60) n_c_58 (by decide)
        refine lv_iload_n hx hb dX10_row_28 rfl (lv_at hl 3 rfl) ?_
        refine lv_if_ge (tgt := 35) hx hb dX10_row_29 (by decide) (fun c_59 => ?_) (fun c_59 => ?_)
        ·
          have n_c_59 : (0 : Int) ≤ a3.toInt := c_ge rfl (by decide) c_59
          have b_a3 : (0 : Int) ≤ a3.toInt ∧ a3.toInt ≤ 60 := r_le2 (by decide : (0 : Int) ≤ (0 : Int32).toInt ∧ (0 : Int32).toInt ≤ 0) b_a3 n_c_59 (by decide)
          refine lv_aload_n hx hb dX10_row_35 rfl (lv_at hl 0 rfl) ?_
          refine va_get (D := (dC, dI)) (ci := 8) (v := .ref mma) (C := RX10) (T := TX10) (N := 33) hx hb hts iX10_row_X10 hown hK hP 0 rfl rfl 29 (by decide) (hts (.fieldLink RX10 65 "LuckyTicketModel" "many" "[I") (List.mem_of_getElem? (i := 9) rfl)) (fun _ h9 => h9) rfl dX10_row_36 ?_
          refine lv_iload_n hx hb dX10_row_39 rfl (lv_at hl 1 rfl) ?_
          refine lv_iload_n hx hb dX10_row_40 rfl (lv_at hl 3 rfl) ?_
          refine va_iast hx hb hK hP hD hS 1 0 rfl rfl (vp_in_b b_a1 (by decide) (by decide)) dX10_row_41 (fun H locs hP hD hS => ?_)
          have hP : va_P (dC, dI) vwCl [(o0, .inr (8, [.int x_th, .ref mwo, .ref mim, .ref mhi, .ref mlu, .ref mtp, .int x_td, .ref mfv, .int x_sz, .int x_at, .int x_fr, .int x_to, .int x_va, .int x_fk, .int x_fp, .ref mfr, .ref mwt, .int x_wt, .int x_op, .int x_jo, .ref mfg, .ref mpl, .long x_dr, .ref mtm, .ref mfa, .ref mqu, .ref mmo, .ref mwy, .ref mwn, .ref mma, .ref mwi, .ref mnu, .ref mmv])), (mma, .inl (c_ma, 4, .inl (upd w_ma (a1 : Int32).toNatClampNeg a3))), (mwi, .inl (c_wi, 4, .inl w_wi)), (mnu, .inl (c_nu, 240, .inr (.inl w_nu)))] H := hP
          have hD : va_D A [(o0, .inr (8, [.int x_th, .ref mwo, .ref mim, .ref mhi, .ref mlu, .ref mtp, .int x_td, .ref mfv, .int x_sz, .int x_at, .int x_fr, .int x_to, .int x_va, .int x_fk, .int x_fp, .ref mfr, .ref mwt, .int x_wt, .int x_op, .int x_jo, .ref mfg, .ref mpl, .long x_dr, .ref mtm, .ref mfa, .ref mqu, .ref mmo, .ref mwy, .ref mwn, .ref mma, .ref mwi, .ref mnu, .ref mmv])), (mma, .inl (c_ma, 4, .inl (upd w_ma (a1 : Int32).toNatClampNeg a3))), (mwi, .inl (c_wi, 4, .inl w_wi)), (mnu, .inl (c_nu, 240, .inr (.inl w_nu)))] := hD
          have ha_61 : rg (upd w_ma (a1 : Int32).toNatClampNeg a3) 4 (-1) 60 := rg_upd ha_mma (rg_w b_a3 (by decide) (by decide))
          generalize (upd w_ma (a1 : Int32).toNatClampNeg a3) = f_60 at hP hD ha_61
          have hP : va_P (dC, dI) vwCl [(o0, .inr (8, [.int x_th, .ref mwo, .ref mim, .ref mhi, .ref mlu, .ref mtp, .int x_td, .ref mfv, .int x_sz, .int x_at, .int x_fr, .int x_to, .int x_va, .int x_fk, .int x_fp, .ref mfr, .ref mwt, .int x_wt, .int x_op, .int x_jo, .ref mfg, .ref mpl, .long x_dr, .ref mtm, .ref mfa, .ref mqu, .ref mmo, .ref mwy, .ref mwn, .ref mma, .ref mwi, .ref mnu, .ref mmv])), (mma, .inl (c_ma, 4, .inl f_60)), (mwi, .inl (c_wi, 4, .inl w_wi)), (mnu, .inl (c_nu, 240, .inr (.inl w_nu)))] H := hP
          have hD : va_D A [(o0, .inr (8, [.int x_th, .ref mwo, .ref mim, .ref mhi, .ref mlu, .ref mtp, .int x_td, .ref mfv, .int x_sz, .int x_at, .int x_fr, .int x_to, .int x_va, .int x_fk, .int x_fp, .ref mfr, .ref mwt, .int x_wt, .int x_op, .int x_jo, .ref mfg, .ref mpl, .long x_dr, .ref mtm, .ref mfa, .ref mqu, .ref mmo, .ref mwy, .ref mwn, .ref mma, .ref mwi, .ref mnu, .ref mmv])), (mma, .inl (c_ma, 4, .inl f_60)), (mwi, .inl (c_wi, 4, .inl w_wi)), (mnu, .inl (c_nu, 240, .inr (.inl w_nu)))] := hD
          refine lv_aload_n hx hb dX10_row_42 rfl (lv_at hl 0 rfl) ?_
          refine va_get (D := (dC, dI)) (ci := 8) (v := .ref mwi) (C := RX10) (T := TX10) (N := 33) hx hb hts iX10_row_X10 hown hK hP 0 rfl rfl 30 (by decide) (hts (.fieldLink RX10 68 "LuckyTicketModel" "width" "[I") (List.mem_of_getElem? (i := 10) rfl)) (fun _ h9 => h9) rfl dX10_row_43 ?_
          refine lv_iload_n hx hb dX10_row_46 rfl (lv_at hl 1 rfl) ?_
          refine lv_iload_n hx hb dX10_row_47 rfl (lv_at hl 2 rfl) ?_
          refine va_iast hx hb hK hP hD hS 2 1 rfl rfl (vp_in_b b_a1 (by decide) (by decide)) dX10_row_48 (fun H locs hP hD hS => ?_)
          have hP : va_P (dC, dI) vwCl [(o0, .inr (8, [.int x_th, .ref mwo, .ref mim, .ref mhi, .ref mlu, .ref mtp, .int x_td, .ref mfv, .int x_sz, .int x_at, .int x_fr, .int x_to, .int x_va, .int x_fk, .int x_fp, .ref mfr, .ref mwt, .int x_wt, .int x_op, .int x_jo, .ref mfg, .ref mpl, .long x_dr, .ref mtm, .ref mfa, .ref mqu, .ref mmo, .ref mwy, .ref mwn, .ref mma, .ref mwi, .ref mnu, .ref mmv])), (mma, .inl (c_ma, 4, .inl f_60)), (mwi, .inl (c_wi, 4, .inl (upd w_wi (a1 : Int32).toNatClampNeg a2))), (mnu, .inl (c_nu, 240, .inr (.inl w_nu)))] H := hP
          have hD : va_D A [(o0, .inr (8, [.int x_th, .ref mwo, .ref mim, .ref mhi, .ref mlu, .ref mtp, .int x_td, .ref mfv, .int x_sz, .int x_at, .int x_fr, .int x_to, .int x_va, .int x_fk, .int x_fp, .ref mfr, .ref mwt, .int x_wt, .int x_op, .int x_jo, .ref mfg, .ref mpl, .long x_dr, .ref mtm, .ref mfa, .ref mqu, .ref mmo, .ref mwy, .ref mwn, .ref mma, .ref mwi, .ref mnu, .ref mmv])), (mma, .inl (c_ma, 4, .inl f_60)), (mwi, .inl (c_wi, 4, .inl (upd w_wi (a1 : Int32).toNatClampNeg a2))), (mnu, .inl (c_nu, 240, .inr (.inl w_nu)))] := hD
          have ha_63 : rg (upd w_wi (a1 : Int32).toNatClampNeg a2) 4 0 3 := rg_upd ha_mwi b_a2
          generalize (upd w_wi (a1 : Int32).toNatClampNeg a2) = f_62 at hP hD ha_63
          have hP : va_P (dC, dI) vwCl [(o0, .inr (8, [.int x_th, .ref mwo, .ref mim, .ref mhi, .ref mlu, .ref mtp, .int x_td, .ref mfv, .int x_sz, .int x_at, .int x_fr, .int x_to, .int x_va, .int x_fk, .int x_fp, .ref mfr, .ref mwt, .int x_wt, .int x_op, .int x_jo, .ref mfg, .ref mpl, .long x_dr, .ref mtm, .ref mfa, .ref mqu, .ref mmo, .ref mwy, .ref mwn, .ref mma, .ref mwi, .ref mnu, .ref mmv])), (mma, .inl (c_ma, 4, .inl f_60)), (mwi, .inl (c_wi, 4, .inl f_62)), (mnu, .inl (c_nu, 240, .inr (.inl w_nu)))] H := hP
          have hD : va_D A [(o0, .inr (8, [.int x_th, .ref mwo, .ref mim, .ref mhi, .ref mlu, .ref mtp, .int x_td, .ref mfv, .int x_sz, .int x_at, .int x_fr, .int x_to, .int x_va, .int x_fk, .int x_fp, .ref mfr, .ref mwt, .int x_wt, .int x_op, .int x_jo, .ref mfg, .ref mpl, .long x_dr, .ref mtm, .ref mfa, .ref mqu, .ref mmo, .ref mwy, .ref mwn, .ref mma, .ref mwi, .ref mnu, .ref mmv])), (mma, .inl (c_ma, 4, .inl f_60)), (mwi, .inl (c_wi, 4, .inl f_62)), (mnu, .inl (c_nu, 240, .inr (.inl w_nu)))] := hD
          refine lv_iconst (v := 0) hx hb dX10_row_49 (by decide) ?_
          refine lv_istore (lv' := [(4, .int 0), (0, .ref o0), (1, .int a1), (2, .int a2), (3, .int a3)]) hx hb dX10_row_50 hl (by decide) rfl (fun ls hl => ?_)
          refine loopW (σ := Int32 × (Nat → Int64)) (fun v => (60 - v.1.toInt).toNat) (fun v H locs ls => ((0 : Int) ≤ v.1.toInt ∧ v.1.toInt ≤ 60) ∧ va_P (dC, dI) vwCl [(o0, .inr (8, [.int x_th, .ref mwo, .ref mim, .ref mhi, .ref mlu, .ref mtp, .int x_td, .ref mfv, .int x_sz, .int x_at, .int x_fr, .int x_to, .int x_va, .int x_fk, .int x_fp, .ref mfr, .ref mwt, .int x_wt, .int x_op, .int x_jo, .ref mfg, .ref mpl, .long x_dr, .ref mtm, .ref mfa, .ref mqu, .ref mmo, .ref mwy, .ref mwn, .ref mma, .ref mwi, .ref mnu, .ref mmv])), (mma, .inl (c_ma, 4, .inl f_60)), (mwi, .inl (c_wi, 4, .inl f_62)), (mnu, .inl (c_nu, 240, .inr (.inl v.2)))] H ∧ va_D A [(o0, .inr (8, [.int x_th, .ref mwo, .ref mim, .ref mhi, .ref mlu, .ref mtp, .int x_td, .ref mfv, .int x_sz, .int x_at, .int x_fr, .int x_to, .int x_va, .int x_fk, .int x_fp, .ref mfr, .ref mwt, .int x_wt, .int x_op, .int x_jo, .ref mfg, .ref mpl, .long x_dr, .ref mtm, .ref mfa, .ref mqu, .ref mmo, .ref mwy, .ref mwn, .ref mma, .ref mwi, .ref mnu, .ref mmv])), (mma, .inl (c_ma, 4, .inl f_60)), (mwi, .inl (c_wi, 4, .inl f_62)), (mnu, .inl (c_nu, 240, .inr (.inl v.2)))] ∧ va_S A s.heap H locs ∧ lv_has ls 5 [(4, .int v.1), (0, .ref o0), (1, .int a1), (2, .int a2), (3, .int a3)]) (fun v H locs ls hI ih_52_95 => ?_) ((0 : Int32), w_nu) ⟨(show (0 : Int) ≤ (0 : Int32).toInt ∧ (0 : Int32).toInt ≤ 60 from (rg_w (by decide : (0 : Int) ≤ (0 : Int32).toInt ∧ (0 : Int32).toInt ≤ 0) (by decide) (by decide))), hP, hD, hS, lv_sub hl [0, 1, 2, 3, 4] rfl⟩
          obtain ⟨y_69, f_70⟩ := v
          obtain ⟨b_y_69, hP, hD, hS, hl⟩ := hI
          have b_y_69 : (0 : Int) ≤ y_69.toInt ∧ y_69.toInt ≤ 60 := b_y_69
          have hP : va_P (dC, dI) vwCl [(o0, .inr (8, [.int x_th, .ref mwo, .ref mim, .ref mhi, .ref mlu, .ref mtp, .int x_td, .ref mfv, .int x_sz, .int x_at, .int x_fr, .int x_to, .int x_va, .int x_fk, .int x_fp, .ref mfr, .ref mwt, .int x_wt, .int x_op, .int x_jo, .ref mfg, .ref mpl, .long x_dr, .ref mtm, .ref mfa, .ref mqu, .ref mmo, .ref mwy, .ref mwn, .ref mma, .ref mwi, .ref mnu, .ref mmv])), (mma, .inl (c_ma, 4, .inl f_60)), (mwi, .inl (c_wi, 4, .inl f_62)), (mnu, .inl (c_nu, 240, .inr (.inl f_70)))] H := hP
          have hD : va_D A [(o0, .inr (8, [.int x_th, .ref mwo, .ref mim, .ref mhi, .ref mlu, .ref mtp, .int x_td, .ref mfv, .int x_sz, .int x_at, .int x_fr, .int x_to, .int x_va, .int x_fk, .int x_fp, .ref mfr, .ref mwt, .int x_wt, .int x_op, .int x_jo, .ref mfg, .ref mpl, .long x_dr, .ref mtm, .ref mfa, .ref mqu, .ref mmo, .ref mwy, .ref mwn, .ref mma, .ref mwi, .ref mnu, .ref mmv])), (mma, .inl (c_ma, 4, .inl f_60)), (mwi, .inl (c_wi, 4, .inl f_62)), (mnu, .inl (c_nu, 240, .inr (.inl f_70)))] := hD
          have hl : lv_has ls 5 [(4, .int y_69), (0, .ref o0), (1, .int a1), (2, .int a2), (3, .int a3)] := hl
          refine lv_iload hx hb dX10_row_52 (lv_at hl 0 rfl) ?_
          refine lv_bipush (v := 60) hx hb dX10_row_54 (by decide) ?_
          refine lv_icmp_ge (tgt := 78) hx hb dX10_row_56 (by decide) (fun c_96 => ?_) (fun c_96 => ?_)
          ·
            have n_c_96 : (60 : Int) ≤ y_69.toInt := c_ge rfl (by decide) c_96
            have b_y_69 : (60 : Int) ≤ y_69.toInt ∧ y_69.toInt ≤ 60 := r_le2 (by decide : (60 : Int) ≤ (60 : Int32).toInt ∧ (60 : Int32).toInt ≤ 60) b_y_69 n_c_96 (by decide)
            refine lv_iconst (v := 0) hx hb dX10_row_78 (by decide) ?_
            have hP9 := hP.sub (ws' := [(o0, .inr (8, [.int x_th, .ref mwo, .ref mim, .ref mhi, .ref mlu, .ref mtp, .int x_td, .ref mfv, .int x_sz, .int x_at, .int x_fr, .int x_to, .int x_va, .int x_fk, .int x_fp, .ref mfr, .ref mwt, .int x_wt, .int x_op, .int x_jo, .ref mfg, .ref mpl, .long x_dr, .ref mtm, .ref mfa, .ref mqu, .ref mmo, .ref mwy, .ref mwn, .ref mma, .ref mwi, .ref mnu, .ref mmv])), (mma, .inl (c_ma, 4, .inl f_60)), (mwi, .inl (c_wi, 4, .inl f_62)), (mnu, .inl (c_nu, 240, .inr (.inl f_70)))]) [0, 1, 2, 3] rfl
            have hD9 := hD.sub (ws' := [(o0, .inr (8, [.int x_th, .ref mwo, .ref mim, .ref mhi, .ref mlu, .ref mtp, .int x_td, .ref mfv, .int x_sz, .int x_at, .int x_fr, .int x_to, .int x_va, .int x_fk, .int x_fp, .ref mfr, .ref mwt, .int x_wt, .int x_op, .int x_jo, .ref mfg, .ref mpl, .long x_dr, .ref mtm, .ref mfa, .ref mqu, .ref mmo, .ref mwy, .ref mwn, .ref mma, .ref mwi, .ref mnu, .ref mmv])), (mma, .inl (c_ma, 4, .inl f_60)), (mwi, .inl (c_wi, 4, .inl f_62)), (mnu, .inl (c_nu, 240, .inr (.inl f_70)))]) [0, 1, 2, 3] (by decide) rfl
            have hK9 := hK.sub (tys' := [(c_ma, .int), (c_wi, .int), (c_nu, .long)]) [0, 1, 2] rfl
            exact W.iret (v := 0) hx hb hr (fun t ht hW => ⟨⟨0, (), rfl, (rg_w (by decide : (0 : Int) ≤ (0 : Int32).toInt ∧ (0 : Int32).toInt ≤ 0) (by decide) (by decide)), f_60, f_62, f_70, ha_61, ha_63, by rw [ht]; exact hP9, va_K.moved hW.alike hK9, hD9⟩, hS.F ht⟩) hS.2.2 dX10_row_79
          ·
            have n_c_96 : (y_69.toInt : Int) < 60 := c_nge rfl (by decide) c_96
            have b_y_69 : (0 : Int) ≤ y_69.toInt ∧ y_69.toInt ≤ 59 := r_lt1 b_y_69 (by decide : (60 : Int) ≤ (60 : Int32).toInt ∧ (60 : Int32).toInt ≤ 60) n_c_96 (by decide)
            refine lv_aload_n hx hb dX10_row_59 rfl (lv_at hl 1 rfl) ?_
            refine va_get (D := (dC, dI)) (ci := 8) (v := .ref mnu) (C := RX10) (T := TX10) (N := 33) hx hb hts iX10_row_X10 hown hK hP 0 rfl rfl 31 (by decide) (hts (.fieldLink RX10 71 "LuckyTicketModel" "numbers" "[J") (List.mem_of_getElem? (i := 11) rfl)) (fun _ h9 => h9) rfl dX10_row_60 ?_
            refine lv_bipush (v := 60) hx hb dX10_row_63 (by decide) ?_
            refine lv_iload_n hx hb dX10_row_65 rfl (lv_at hl 2 rfl) ?_
            refine lv_imul hx hb dX10_row_66 ?_
            refine lv_topi (fun z_97 e_z_97 => ?_)
            obtain ⟨q_z_97, b_z_97⟩ := ti_mul (lo := 0) (hi := 180) e_z_97 (by decide : (60 : Int32).toInt = 60) rfl (by decide : (60 : Int) ≤ (60 : Int32).toInt ∧ (60 : Int32).toInt ≤ 60) b_a1 (by decide)
            refine lv_iload hx hb dX10_row_67 (lv_at hl 0 rfl) ?_
            refine lv_iadd hx hb dX10_row_69 ?_
            refine lv_topi (fun z_98 e_z_98 => ?_)
            obtain ⟨q_z_98, b_z_98⟩ := ti_add (lo := 0) (hi := 239) e_z_98 rfl rfl b_z_97 b_y_69 (by decide)
            refine lv_lconst (v := 0) hx hb dX10_row_70 (by decide) ?_
            refine va_last hx hb hK hP hD hS 3 2 rfl rfl (vp_in_b b_z_98 (by decide) (by decide)) dX10_row_71 (fun H locs hP hD hS => ?_)
            have hP : va_P (dC, dI) vwCl [(o0, .inr (8, [.int x_th, .ref mwo, .ref mim, .ref mhi, .ref mlu, .ref mtp, .int x_td, .ref mfv, .int x_sz, .int x_at, .int x_fr, .int x_to, .int x_va, .int x_fk, .int x_fp, .ref mfr, .ref mwt, .int x_wt, .int x_op, .int x_jo, .ref mfg, .ref mpl, .long x_dr, .ref mtm, .ref mfa, .ref mqu, .ref mmo, .ref mwy, .ref mwn, .ref mma, .ref mwi, .ref mnu, .ref mmv])), (mma, .inl (c_ma, 4, .inl f_60)), (mwi, .inl (c_wi, 4, .inl f_62)), (mnu, .inl (c_nu, 240, .inr (.inl (vp_updL f_70 (z_98 : Int32).toNatClampNeg 0))))] H := hP
            have hD : va_D A [(o0, .inr (8, [.int x_th, .ref mwo, .ref mim, .ref mhi, .ref mlu, .ref mtp, .int x_td, .ref mfv, .int x_sz, .int x_at, .int x_fr, .int x_to, .int x_va, .int x_fk, .int x_fp, .ref mfr, .ref mwt, .int x_wt, .int x_op, .int x_jo, .ref mfg, .ref mpl, .long x_dr, .ref mtm, .ref mfa, .ref mqu, .ref mmo, .ref mwy, .ref mwn, .ref mma, .ref mwi, .ref mnu, .ref mmv])), (mma, .inl (c_ma, 4, .inl f_60)), (mwi, .inl (c_wi, 4, .inl f_62)), (mnu, .inl (c_nu, 240, .inr (.inl (vp_updL f_70 (z_98 : Int32).toNatClampNeg 0))))] := hD
            generalize (vp_updL f_70 (z_98 : Int32).toNatClampNeg 0) = f_99 at hP hD
            have hP : va_P (dC, dI) vwCl [(o0, .inr (8, [.int x_th, .ref mwo, .ref mim, .ref mhi, .ref mlu, .ref mtp, .int x_td, .ref mfv, .int x_sz, .int x_at, .int x_fr, .int x_to, .int x_va, .int x_fk, .int x_fp, .ref mfr, .ref mwt, .int x_wt, .int x_op, .int x_jo, .ref mfg, .ref mpl, .long x_dr, .ref mtm, .ref mfa, .ref mqu, .ref mmo, .ref mwy, .ref mwn, .ref mma, .ref mwi, .ref mnu, .ref mmv])), (mma, .inl (c_ma, 4, .inl f_60)), (mwi, .inl (c_wi, 4, .inl f_62)), (mnu, .inl (c_nu, 240, .inr (.inl f_99)))] H := hP
            have hD : va_D A [(o0, .inr (8, [.int x_th, .ref mwo, .ref mim, .ref mhi, .ref mlu, .ref mtp, .int x_td, .ref mfv, .int x_sz, .int x_at, .int x_fr, .int x_to, .int x_va, .int x_fk, .int x_fp, .ref mfr, .ref mwt, .int x_wt, .int x_op, .int x_jo, .ref mfg, .ref mpl, .long x_dr, .ref mtm, .ref mfa, .ref mqu, .ref mmo, .ref mwy, .ref mwn, .ref mma, .ref mwi, .ref mnu, .ref mmv])), (mma, .inl (c_ma, 4, .inl f_60)), (mwi, .inl (c_wi, 4, .inl f_62)), (mnu, .inl (c_nu, 240, .inr (.inl f_99)))] := hD
            obtain ⟨z_100, e_z_100⟩ : ∃ y : Int32, y = y_69 + 1 := ⟨_, rfl⟩
            refine lv_iinc (v := z_100) (lv' := [(4, .int z_100), (0, .ref o0), (1, .int a1), (2, .int a2), (3, .int a3)]) hx hb dX10_row_72 hl (k := 0) rfl (by rw [e_z_100]; rfl) (by decide) rfl (fun ls hl => ?_)
            obtain ⟨q_z_100, b_z_100⟩ := ti_add (lo := 1) (hi := 60) e_z_100 rfl (by decide : (1 : Int32).toInt = 1) b_y_69 (by decide : (1 : Int) ≤ (1 : Int32).toInt ∧ (1 : Int32).toInt ≤ 1) (by decide)
            refine lv_goto (tgt := 52) hx hb dX10_row_75 (by decide) ?_
            exact ih_52_95 (z_100, f_99) _ _ _ ⟨(show (0 : Int) ≤ z_100.toInt ∧ z_100.toInt ≤ 60 from (rg_w b_z_100 (by decide) (by decide))), hP, hD, hS, lv_sub hl [0, 1, 2, 3, 4] rfl⟩ (show (60 - z_100.toInt).toNat < (60 - y_69.toInt).toNat by omega)
        ·
          have n_c_59 : (a3.toInt : Int) < 0 := c_nge rfl (by decide) c_59
          have b_a3 : (-2147483648 : Int) ≤ a3.toInt ∧ a3.toInt ≤ -1 := r_lt1 b_a3 (by decide : (0 : Int) ≤ (0 : Int32).toInt ∧ (0 : Int32).toInt ≤ 0) n_c_59 (by decide)
          refine lv_bipush (v := (-3)) hx hb dX10_row_32 (by decide) ?_
          have hP9 := hP.sub (ws' := [(o0, .inr (8, [.int x_th, .ref mwo, .ref mim, .ref mhi, .ref mlu, .ref mtp, .int x_td, .ref mfv, .int x_sz, .int x_at, .int x_fr, .int x_to, .int x_va, .int x_fk, .int x_fp, .ref mfr, .ref mwt, .int x_wt, .int x_op, .int x_jo, .ref mfg, .ref mpl, .long x_dr, .ref mtm, .ref mfa, .ref mqu, .ref mmo, .ref mwy, .ref mwn, .ref mma, .ref mwi, .ref mnu, .ref mmv])), (mma, .inl (c_ma, 4, .inl w_ma)), (mwi, .inl (c_wi, 4, .inl w_wi)), (mnu, .inl (c_nu, 240, .inr (.inl w_nu)))]) [0, 1, 2, 3] rfl
          have hD9 := hD.sub (ws' := [(o0, .inr (8, [.int x_th, .ref mwo, .ref mim, .ref mhi, .ref mlu, .ref mtp, .int x_td, .ref mfv, .int x_sz, .int x_at, .int x_fr, .int x_to, .int x_va, .int x_fk, .int x_fp, .ref mfr, .ref mwt, .int x_wt, .int x_op, .int x_jo, .ref mfg, .ref mpl, .long x_dr, .ref mtm, .ref mfa, .ref mqu, .ref mmo, .ref mwy, .ref mwn, .ref mma, .ref mwi, .ref mnu, .ref mmv])), (mma, .inl (c_ma, 4, .inl w_ma)), (mwi, .inl (c_wi, 4, .inl w_wi)), (mnu, .inl (c_nu, 240, .inr (.inl w_nu)))]) [0, 1, 2, 3] (by decide) rfl
          have hK9 := hK.sub (tys' := [(c_ma, .int), (c_wi, .int), (c_nu, .long)]) [0, 1, 2] rfl
          exact W.iret (v := (-3)) hx hb hr (fun t ht hW => ⟨⟨(-3), (), rfl, (rg_w (by decide : (-3 : Int) ≤ ((-3) : Int32).toInt ∧ ((-3) : Int32).toInt ≤ -3) (by decide) (by decide)), w_ma, w_wi, w_nu, ha_mma, ha_mwi, by rw [ht]; exact hP9, va_K.moved hW.alike hK9, hD9⟩, hS.F ht⟩) hS.2.2 dX10_row_34
      ·
        have n_c_58 : (60 : Int) < a3.toInt := c_nle rfl (by decide) c_58
        have b_a3 : (61 : Int) ≤ a3.toInt ∧ a3.toInt ≤ 2147483647 := r_lt2 (by decide : (60 : Int) ≤ (60 : Int32).toInt ∧ (60 : Int32).toInt ≤ 60) (ti_rng a3) n_c_58 (by decide)
        refine lv_bipush (v := (-2)) hx hb dX10_row_25 (by decide) ?_
        have hP9 := hP.sub (ws' := [(o0, .inr (8, [.int x_th, .ref mwo, .ref mim, .ref mhi, .ref mlu, .ref mtp, .int x_td, .ref mfv, .int x_sz, .int x_at, .int x_fr, .int x_to, .int x_va, .int x_fk, .int x_fp, .ref mfr, .ref mwt, .int x_wt, .int x_op, .int x_jo, .ref mfg, .ref mpl, .long x_dr, .ref mtm, .ref mfa, .ref mqu, .ref mmo, .ref mwy, .ref mwn, .ref mma, .ref mwi, .ref mnu, .ref mmv])), (mma, .inl (c_ma, 4, .inl w_ma)), (mwi, .inl (c_wi, 4, .inl w_wi)), (mnu, .inl (c_nu, 240, .inr (.inl w_nu)))]) [0, 1, 2, 3] rfl
        have hD9 := hD.sub (ws' := [(o0, .inr (8, [.int x_th, .ref mwo, .ref mim, .ref mhi, .ref mlu, .ref mtp, .int x_td, .ref mfv, .int x_sz, .int x_at, .int x_fr, .int x_to, .int x_va, .int x_fk, .int x_fp, .ref mfr, .ref mwt, .int x_wt, .int x_op, .int x_jo, .ref mfg, .ref mpl, .long x_dr, .ref mtm, .ref mfa, .ref mqu, .ref mmo, .ref mwy, .ref mwn, .ref mma, .ref mwi, .ref mnu, .ref mmv])), (mma, .inl (c_ma, 4, .inl w_ma)), (mwi, .inl (c_wi, 4, .inl w_wi)), (mnu, .inl (c_nu, 240, .inr (.inl w_nu)))]) [0, 1, 2, 3] (by decide) rfl
        have hK9 := hK.sub (tys' := [(c_ma, .int), (c_wi, .int), (c_nu, .long)]) [0, 1, 2] rfl
        exact W.iret (v := (-2)) hx hb hr (fun t ht hW => ⟨⟨(-2), (), rfl, (rg_w (by decide : (-2 : Int) ≤ ((-2) : Int32).toInt ∧ ((-2) : Int32).toInt ≤ -2) (by decide) (by decide)), w_ma, w_wi, w_nu, ha_mma, ha_mwi, by rw [ht]; exact hP9, va_K.moved hW.alike hK9, hD9⟩, hS.F ht⟩) hS.2.2 dX10_row_27
theorem dX10_write_0 : decode cX10_write 0 = .ok (.iload_n 1, 1) := by decide +kernel
theorem dX10_write_1 : decode cX10_write 1 = .ok (.invokestatic 369, 3) := by decide +kernel
theorem dX10_write_4 : decode cX10_write 4 = .ok (.ifCond .ne 6, 3) := by decide +kernel
theorem dX10_write_7 : decode cX10_write 7 = .ok (.bipush (-2), 2) := by decide +kernel
theorem dX10_write_9 : decode cX10_write 9 = .ok (.ireturn, 1) := by decide +kernel
theorem dX10_write_10 : decode cX10_write 10 = .ok (.aload_n 0, 1) := by decide +kernel
theorem dX10_write_11 : decode cX10_write 11 = .ok (.getfield 65, 3) := by decide +kernel
theorem dX10_write_14 : decode cX10_write 14 = .ok (.iload_n 1, 1) := by decide +kernel
theorem dX10_write_15 : decode cX10_write 15 = .ok (.iaload, 1) := by decide +kernel
theorem dX10_write_16 : decode cX10_write 16 = .ok (.iconst (-1), 1) := by decide +kernel
theorem dX10_write_17 : decode cX10_write 17 = .ok (.if_icmp .ne 6, 3) := by decide +kernel
theorem dX10_write_20 : decode cX10_write 20 = .ok (.bipush (-6), 2) := by decide +kernel
theorem dX10_write_22 : decode cX10_write 22 = .ok (.ireturn, 1) := by decide +kernel
theorem dX10_write_23 : decode cX10_write 23 = .ok (.iload_n 2, 1) := by decide +kernel
theorem dX10_write_24 : decode cX10_write 24 = .ok (.i2l, 1) := by decide +kernel
theorem dX10_write_25 : decode cX10_write 25 = .ok (.lconst 0, 1) := by decide +kernel
theorem dX10_write_26 : decode cX10_write 26 = .ok (.aload_n 0, 1) := by decide +kernel
theorem dX10_write_27 : decode cX10_write 27 = .ok (.getfield 65, 3) := by decide +kernel
theorem dX10_write_30 : decode cX10_write 30 = .ok (.iload_n 1, 1) := by decide +kernel
theorem dX10_write_31 : decode cX10_write 31 = .ok (.iaload, 1) := by decide +kernel
theorem dX10_write_32 : decode cX10_write 32 = .ok (.iconst 1, 1) := by decide +kernel
theorem dX10_write_33 : decode cX10_write 33 = .ok (.isub, 1) := by decide +kernel
theorem dX10_write_34 : decode cX10_write 34 = .ok (.i2l, 1) := by decide +kernel
theorem dX10_write_35 : decode cX10_write 35 = .ok (.invokestatic 82, 3) := by decide +kernel
theorem dX10_write_38 : decode cX10_write 38 = .ok (.ifCond .ne 6, 3) := by decide +kernel
theorem dX10_write_41 : decode cX10_write 41 = .ok (.bipush (-7), 2) := by decide +kernel
theorem dX10_write_43 : decode cX10_write 43 = .ok (.ireturn, 1) := by decide +kernel
theorem dX10_write_44 : decode cX10_write 44 = .ok (.aload_n 0, 1) := by decide +kernel
theorem dX10_write_45 : decode cX10_write 45 = .ok (.getfield 71, 3) := by decide +kernel
theorem dX10_write_48 : decode cX10_write 48 = .ok (.bipush 60, 2) := by decide +kernel
theorem dX10_write_50 : decode cX10_write 50 = .ok (.iload_n 1, 1) := by decide +kernel
theorem dX10_write_51 : decode cX10_write 51 = .ok (.imul, 1) := by decide +kernel
theorem dX10_write_52 : decode cX10_write 52 = .ok (.iload_n 2, 1) := by decide +kernel
theorem dX10_write_53 : decode cX10_write 53 = .ok (.iadd, 1) := by decide +kernel
theorem dX10_write_54 : decode cX10_write 54 = .ok (.lload_n 3, 1) := by decide +kernel
theorem dX10_write_55 : decode cX10_write 55 = .ok (.aload_n 0, 1) := by decide +kernel
theorem dX10_write_56 : decode cX10_write 56 = .ok (.getfield 68, 3) := by decide +kernel
theorem dX10_write_59 : decode cX10_write 59 = .ok (.iload_n 1, 1) := by decide +kernel
theorem dX10_write_60 : decode cX10_write 60 = .ok (.iaload, 1) := by decide +kernel
theorem dX10_write_61 : decode cX10_write 61 = .ok (.invokestatic 467, 3) := by decide +kernel
theorem dX10_write_64 : decode cX10_write 64 = .ok (.lastore, 1) := by decide +kernel
theorem dX10_write_65 : decode cX10_write 65 = .ok (.iconst 0, 1) := by decide +kernel
theorem dX10_write_66 : decode cX10_write 66 = .ok (.ireturn, 1) := by decide +kernel
def uX10_write : List Cond := .code yX10_write cX10_write 5 (some .int) :: ([.methodLink RX10 369 yX10_isSlot, .static yX10_isSlot, .initialized RX10, .code yX10_isSlot cX10_isSlot 1 (some .boolean), .constantLong RX10 375 (3), .methodLink RX10 82 yX10_in, .static yX10_in, .code yX10_in cX10_in 6 (some .boolean), .fieldLink RX10 65 "LuckyTicketModel" "many" "[I", .fieldLink RX10 71 "LuckyTicketModel" "numbers" "[J", .fieldLink RX10 68 "LuckyTicketModel" "width" "[I", .methodLink RX10 467 yX10_cut, .static yX10_cut, .code yX10_cut cX10_cut 4 (some .long)] ++ wsX100)
theorem iX10_write_X10 : ∀ w ∈ wsX100, w ∈ uX10_write := fun _ h => List.mem_cons_of_mem _ (List.mem_append_right _ h)
set_option maxRecDepth 20000 in
theorem gX10_write__X10_isSlot_S369 : GoodIn uX10_write (va_wsS RX10 369 yX10_isSlot uX10_isSlot) := goodIn_p _ [4, 8] rfl (by decide +kernel)
set_option maxRecDepth 20000 in
theorem gX10_write__X10_in_S82 : GoodIn uX10_write (va_wsS RX10 82 yX10_in uX10_in) := goodIn_p _ [8] rfl (by decide +kernel)
set_option maxRecDepth 20000 in
theorem gX10_write__X10_cut_S467 : GoodIn uX10_write (va_wsS RX10 467 yX10_cut uX10_cut) := goodIn_p _ [14] rfl (by decide +kernel)
set_option maxHeartbeats 4000000 in
set_option maxRecDepth 100000 in
theorem kX10_write (l : Launch) (dC : Nat → ClassId) (dI : Nat → Nat → Nat) (o0 : Nat) (x_th : Int32) (mwo : Nat) (mim : Nat) (mhi : Nat) (mlu : Nat) (mtp : Nat) (x_td : Int32) (mfv : Nat) (x_sz : Int32) (x_at : Int32) (x_fr : Int32) (x_to : Int32) (x_va : Int32) (x_fk : Int32) (x_fp : Int32) (mfr : Nat) (mwt : Nat) (x_wt : Int32) (x_op : Int32) (x_jo : Int32) (mfg : Nat) (mpl : Nat) (x_dr : Int64) (mtm : Nat) (mfa : Nat) (mqu : Nat) (mmo : Nat) (mwy : Nat) (mwn : Nat) (mma : Nat) (mwi : Nat) (mnu : Nat) (mmv : Nat) (c_ma : ClassId) (c_wi : ClassId) (c_nu : ClassId) (w_ma : Nat → Int32) (w_wi : Nat → Int32) (w_nu : Nat → Int64) (a1 : Int32) (a2 : Int32) (a3 : Int64) (sz : Nat) (ha_mma : rg w_ma 4 (-1) 60) (ha_mwi : rg w_wi 4 0 3) : Met l yX10_write uX10_write ({ frames := 2, cells := 0, slots := 0, locals := 45 }) (va_Pc [.ref o0, .int a1, .int a2, .long a3] (hw (dC, dI) vwCl [(o0, .inr (8, [.int x_th, .ref mwo, .ref mim, .ref mhi, .ref mlu, .ref mtp, .int x_td, .ref mfv, .int x_sz, .int x_at, .int x_fr, .int x_to, .int x_va, .int x_fk, .int x_fp, .ref mfr, .ref mwt, .int x_wt, .int x_op, .int x_jo, .ref mfg, .ref mpl, .long x_dr, .ref mtm, .ref mfa, .ref mqu, .ref mmo, .ref mwy, .ref mwn, .ref mma, .ref mwi, .ref mnu, .ref mmv])), (mma, .inl (c_ma, 4, .inl w_ma)), (mwi, .inl (c_wi, 4, .inl w_wi)), (mnu, .inl (c_nu, 240, .inr (.inl w_nu)))] [(c_ma, .int), (c_wi, .int), (c_nu, .long)] sz)) (va_Qi (fun (r : Int32) (_ : Unit) => ((-7 : Int) ≤ r.toInt ∧ r.toInt ≤ 0)) (fun (_ : Unit) t => ∃ (o0_ : Nat → Int64), va_P (dC, dI) vwCl [(o0, .inr (8, [.int x_th, .ref mwo, .ref mim, .ref mhi, .ref mlu, .ref mtp, .int x_td, .ref mfv, .int x_sz, .int x_at, .int x_fr, .int x_to, .int x_va, .int x_fk, .int x_fp, .ref mfr, .ref mwt, .int x_wt, .int x_op, .int x_jo, .ref mfg, .ref mpl, .long x_dr, .ref mtm, .ref mfa, .ref mqu, .ref mmo, .ref mwy, .ref mwn, .ref mma, .ref mwi, .ref mnu, .ref mmv])), (mma, .inl (c_ma, 4, .inl w_ma)), (mwi, .inl (c_wi, 4, .inl w_wi)), (mnu, .inl (c_nu, 240, .inr (.inl o0_)))] t.heap ∧ va_K (dC, dI) vwCl [(c_ma, .int), (c_wi, .int), (c_nu, .long)] t ∧ va_D (va_A [(o0, .inr (8, [.int x_th, .ref mwo, .ref mim, .ref mhi, .ref mlu, .ref mtp, .int x_td, .ref mfv, .int x_sz, .int x_at, .int x_fr, .int x_to, .int x_va, .int x_fk, .int x_fp, .ref mfr, .ref mwt, .int x_wt, .int x_op, .int x_jo, .ref mfg, .ref mpl, .long x_dr, .ref mtm, .ref mfa, .ref mqu, .ref mmo, .ref mwy, .ref mwn, .ref mma, .ref mwi, .ref mnu, .ref mmv])), (mma, .inl (c_ma, 4, .inl w_ma)), (mwi, .inl (c_wi, 4, .inl w_wi)), (mnu, .inl (c_nu, 240, .inr (.inl w_nu)))] sz) [(o0, .inr (8, [.int x_th, .ref mwo, .ref mim, .ref mhi, .ref mlu, .ref mtp, .int x_td, .ref mfv, .int x_sz, .int x_at, .int x_fr, .int x_to, .int x_va, .int x_fk, .int x_fp, .ref mfr, .ref mwt, .int x_wt, .int x_op, .int x_jo, .ref mfg, .ref mpl, .long x_dr, .ref mtm, .ref mfa, .ref mqu, .ref mmo, .ref mwy, .ref mwn, .ref mma, .ref mwi, .ref mnu, .ref mmv])), (mma, .inl (c_ma, 4, .inl w_ma)), (mwi, .inl (c_wi, 4, .inl w_wi)), (mnu, .inl (c_nu, 240, .inr (.inl o0_)))]) (va_A [(o0, .inr (8, [.int x_th, .ref mwo, .ref mim, .ref mhi, .ref mlu, .ref mtp, .int x_td, .ref mfv, .int x_sz, .int x_at, .int x_fr, .int x_to, .int x_va, .int x_fk, .int x_fp, .ref mfr, .ref mwt, .int x_wt, .int x_op, .int x_jo, .ref mfg, .ref mpl, .long x_dr, .ref mtm, .ref mfa, .ref mqu, .ref mmo, .ref mwy, .ref mwn, .ref mma, .ref mwi, .ref mnu, .ref mmv])), (mma, .inl (c_ma, 4, .inl w_ma)), (mwi, .inl (c_wi, 4, .inl w_wi)), (mnu, .inl (c_nu, 240, .inr (.inl w_nu)))] sz)) 0 0 (va_A [(o0, .inr (8, [.int x_th, .ref mwo, .ref mim, .ref mhi, .ref mlu, .ref mtp, .int x_td, .ref mfv, .int x_sz, .int x_at, .int x_fr, .int x_to, .int x_va, .int x_fk, .int x_fp, .ref mfr, .ref mwt, .int x_wt, .int x_op, .int x_jo, .ref mfg, .ref mpl, .long x_dr, .ref mtm, .ref mfa, .ref mqu, .ref mmo, .ref mwy, .ref mwn, .ref mma, .ref mwi, .ref mnu, .ref mmv])), (mma, .inl (c_ma, 4, .inl w_ma)), (mwi, .inl (c_wi, 4, .inl w_wi)), (mnu, .inl (c_nu, 240, .inr (.inl w_nu)))] sz) := by
  refine Met.ofW (cc := cX10_write) (maxL := 5) (ret := (some .int)) (by decide) rfl ?_
  intro p e s m args below meth c s₁ B hml hv
  obtain ⟨rfl, hsz, hP, hK, hD0, hN⟩ := hv
  have hx := B.exec
  have hb := B.bytes
  have hr := B.returns
  have hts := atoms_spec (ws := uX10_write) B.pre
  have hown : s.vm.findClass RX10 = some m.cls := findClass_of_methodNamed B.named
  have hlocks := B.notSynchronized
  subst hsz
  have hD := hD0.self (sz := s.heap.size)
  generalize hAe : va_A [(o0, .inr (8, [.int x_th, .ref mwo, .ref mim, .ref mhi, .ref mlu, .ref mtp, .int x_td, .ref mfv, .int x_sz, .int x_at, .int x_fr, .int x_to, .int x_va, .int x_fk, .int x_fp, .ref mfr, .ref mwt, .int x_wt, .int x_op, .int x_jo, .ref mfg, .ref mpl, .long x_dr, .ref mtm, .ref mfa, .ref mqu, .ref mmo, .ref mwy, .ref mwn, .ref mma, .ref mwi, .ref mnu, .ref mmv])), (mma, .inl (c_ma, 4, .inl w_ma)), (mwi, .inl (c_wi, 4, .inl w_wi)), (mnu, .inl (c_nu, 240, .inr (.inl w_nu)))] s.heap.size = A at hD ⊢
  have hA : ∀ q : Nat, s.heap.size ≤ q → A q := fun q h => by rw [← hAe]; exact Or.inr h
  have hS : va_S A s.heap s.heap [] := va_S.rf
  have hP : va_P (dC, dI) vwCl [(o0, .inr (8, [.int x_th, .ref mwo, .ref mim, .ref mhi, .ref mlu, .ref mtp, .int x_td, .ref mfv, .int x_sz, .int x_at, .int x_fr, .int x_to, .int x_va, .int x_fk, .int x_fp, .ref mfr, .ref mwt, .int x_wt, .int x_op, .int x_jo, .ref mfg, .ref mpl, .long x_dr, .ref mtm, .ref mfa, .ref mqu, .ref mmo, .ref mwy, .ref mwn, .ref mma, .ref mwi, .ref mnu, .ref mmv])), (mma, .inl (c_ma, 4, .inl w_ma)), (mwi, .inl (c_wi, 4, .inl w_wi)), (mnu, .inl (c_nu, 240, .inr (.inl w_nu)))] s.heap := hP
  have hl := lv_entry ([.ref o0, .int a1, .int a2, .long a3]) (n := 5) (Nat.le_of_ble_eq_true rfl)
  rw [lg_entry_eq]
  generalize (lg_sl ([.ref o0, .int a1, .int a2, .long a3]) ++ List.replicate (5 - (lg_sl ([.ref o0, .int a1, .int a2, .long a3])).length) Slot.unset).toArray = ls at hl ⊢
  have hl : lv_has ls 5 [(0, .ref o0), (1, .int a1), (2, .int a2), (3, .long a3)] := hl
  refine lv_iload_n hx hb dX10_write_0 rfl (lv_at hl 1 rfl) ?_
  refine vp_callSi (W.runS (As := [.int a1]) (rest := []) ⟨hx, hb, hml, hown, hts⟩ (kX10_isSlot l dC dI a1 ) (va_cwS 1 hts gX10_write__X10_isSlot_S369 rfl rfl rfl (by decide +kernel) ⟨lel 2 2 rfl, lel 45 45 rfl⟩) ⟨pn_fb, pn_use⟩ rfl rfl hl.1 rfl (lv_room (Nat.le_of_ble_eq_true rfl)) dX10_write_1 ⟨lel 0 0 rfl, lel 0 0 rfl⟩) (fun r_18 h_r_18 => ?_)
  obtain ⟨b_r_18, nz_r_18⟩ := h_r_18
  have b_r_18 : (0 : Int) ≤ r_18.toInt ∧ r_18.toInt ≤ 1 := b_r_18
  refine lv_if_ne (tgt := 10) hx hb dX10_write_4 (by decide) (fun c_19 => ?_) (fun c_19 => ?_)
  ·
    have n_c_19 : (r_18.toInt : Int) ≠ 0 := c_ne rfl (by decide) c_19
    have b_r_18 : (1 : Int) ≤ r_18.toInt ∧ r_18.toInt ≤ 1 := r_ne1 b_r_18 (by decide : (0 : Int) ≤ (0 : Int32).toInt ∧ (0 : Int32).toInt ≤ 0) n_c_19 (by decide)
    obtain ⟨b_a1, g_20⟩ := nz_r_18 c_19
    refine lv_aload_n hx hb dX10_write_10 rfl (lv_at hl 0 rfl) ?_
    refine va_get (D := (dC, dI)) (ci := 8) (v := .ref mma) (C := RX10) (T := TX10) (N := 33) hx hb hts iX10_write_X10 hown hK hP 0 rfl rfl 29 (by decide) (hts (.fieldLink RX10 65 "LuckyTicketModel" "many" "[I") (List.mem_of_getElem? (i := 9) rfl)) (fun _ h9 => h9) rfl dX10_write_11 ?_
    refine lv_iload_n hx hb dX10_write_14 rfl (lv_at hl 1 rfl) ?_
    refine va_iald hx hb hK hP 1 0 rfl rfl (vp_in_b b_a1 (by decide) (by decide)) dX10_write_15 ?_
    refine lv_topi (fun z_21 e_z_21 => ?_)
    have b_z_21 : (-1 : Int) ≤ z_21.toInt ∧ z_21.toInt ≤ 60 := rg_at ha_mma (vp_in_b b_a1 (by decide) (by decide)) e_z_21
    refine lv_iconst (v := (-1)) hx hb dX10_write_16 (by decide) ?_
    refine lv_icmp_ne (tgt := 23) hx hb dX10_write_17 (by decide) (fun c_22 => ?_) (fun c_22 => ?_)
    ·
      have n_c_22 : (z_21.toInt : Int) ≠ (-1) := c_ne rfl (by decide) c_22
      have b_z_21 : (0 : Int) ≤ z_21.toInt ∧ z_21.toInt ≤ 60 := r_ne1 b_z_21 (by decide : (-1 : Int) ≤ ((-1) : Int32).toInt ∧ ((-1) : Int32).toInt ≤ -1) n_c_22 (by decide)
      refine lv_iload_n hx hb dX10_write_23 rfl (lv_at hl 2 rfl) ?_
      obtain ⟨z_23, e_z_23⟩ : ∃ y : Int64, y = a2.toInt64 := ⟨_, rfl⟩
      refine lv_i2l (v := z_23) hx hb dX10_write_24 e_z_23.symm ?_
      obtain ⟨q_z_23, b_z_23⟩ := ti_i2l e_z_23 (ti_rng a2)
      refine lv_lconst (v := 0) hx hb dX10_write_25 (by decide) ?_
      refine lv_aload_n hx hb dX10_write_26 rfl (lv_at hl 0 rfl) ?_
      refine va_get (D := (dC, dI)) (ci := 8) (v := .ref mma) (C := RX10) (T := TX10) (N := 33) hx hb hts iX10_write_X10 hown hK hP 0 rfl rfl 29 (by decide) (hts (.fieldLink RX10 65 "LuckyTicketModel" "many" "[I") (List.mem_of_getElem? (i := 9) rfl)) (fun _ h9 => h9) rfl dX10_write_27 ?_
      refine lv_iload_n hx hb dX10_write_30 rfl (lv_at hl 1 rfl) ?_
      refine va_iald hx hb hK hP 1 0 rfl rfl (vp_in_b b_a1 (by decide) (by decide)) dX10_write_31 ?_
      refine lv_topi (fun z_24 e_z_24 => ?_)
      have b_z_24 : (-1 : Int) ≤ z_24.toInt ∧ z_24.toInt ≤ 60 := rg_at ha_mma (vp_in_b b_a1 (by decide) (by decide)) e_z_24
      refine lv_iconst (v := 1) hx hb dX10_write_32 (by decide) ?_
      refine lv_isub hx hb dX10_write_33 ?_
      refine lv_topi (fun z_25 e_z_25 => ?_)
      obtain ⟨q_z_25, b_z_25⟩ := ti_sub (lo := -2) (hi := 59) e_z_25 rfl (by decide : (1 : Int32).toInt = 1) b_z_24 (by decide : (1 : Int) ≤ (1 : Int32).toInt ∧ (1 : Int32).toInt ≤ 1) (by decide)
      obtain ⟨z_26, e_z_26⟩ : ∃ y : Int64, y = z_25.toInt64 := ⟨_, rfl⟩
      refine lv_i2l (v := z_26) hx hb dX10_write_34 e_z_26.symm ?_
      obtain ⟨q_z_26, b_z_26⟩ := ti_i2l e_z_26 b_z_25
      refine vp_callSi (W.runS (As := [.long z_23, .long 0, .long z_26]) (rest := []) ⟨hx, hb, hml, hown, hts⟩ (kX10_in l dC dI z_23 0 z_26 ) (va_cwS 3 hts gX10_write__X10_in_S82 rfl rfl rfl (by decide +kernel) ⟨lel 1 2 rfl, lel 25 45 rfl⟩) ⟨pn_fb, pn_use⟩ rfl rfl hl.1 rfl (lv_room (Nat.le_of_ble_eq_true rfl)) dX10_write_35 ⟨lel 0 0 rfl, lel 0 0 rfl⟩) (fun r_27 h_r_27 => ?_)
      obtain ⟨b_r_27, nz_r_27⟩ := h_r_27
      have b_r_27 : (0 : Int) ≤ r_27.toInt ∧ r_27.toInt ≤ 1 := b_r_27
      refine lv_if_ne (tgt := 44) hx hb dX10_write_38 (by decide) (fun c_28 => ?_) (fun c_28 => ?_)
      ·
        have n_c_28 : (r_27.toInt : Int) ≠ 0 := c_ne rfl (by decide) c_28
        have b_r_27 : (1 : Int) ≤ r_27.toInt ∧ r_27.toInt ≤ 1 := r_ne1 b_r_27 (by decide : (0 : Int) ≤ (0 : Int32).toInt ∧ (0 : Int32).toInt ≤ 0) n_c_28 (by decide)
        have g_29 := nz_r_27 c_28
        have lt0_g_29 := (by decide : (0 : Int64).toInt = 0)
        have b_z_23 : (0 : Int) ≤ z_23.toInt ∧ z_23.toInt ≤ 59 := by
          have q0 := b_z_23
          have q1 := (by decide : (0 : Int) ≤ (0 : Int64).toInt ∧ (0 : Int64).toInt ≤ 0)
          have q2 := b_z_26
          omega
        have b_a2 : (0 : Int) ≤ a2.toInt ∧ a2.toInt ≤ 59 := by
          have q0 := b_z_23; have q1 := q_z_23; have q2 := (ti_rng a2); omega
        refine lv_aload_n hx hb dX10_write_44 rfl (lv_at hl 0 rfl) ?_
        refine va_get (D := (dC, dI)) (ci := 8) (v := .ref mnu) (C := RX10) (T := TX10) (N := 33) hx hb hts iX10_write_X10 hown hK hP 0 rfl rfl 31 (by decide) (hts (.fieldLink RX10 71 "LuckyTicketModel" "numbers" "[J") (List.mem_of_getElem? (i := 10) rfl)) (fun _ h9 => h9) rfl dX10_write_45 ?_
        refine lv_bipush (v := 60) hx hb dX10_write_48 (by decide) ?_
        refine lv_iload_n hx hb dX10_write_50 rfl (lv_at hl 1 rfl) ?_
        refine lv_imul hx hb dX10_write_51 ?_
        refine lv_topi (fun z_30 e_z_30 => ?_)
        obtain ⟨q_z_30, b_z_30⟩ := ti_mul (lo := 0) (hi := 180) e_z_30 (by decide : (60 : Int32).toInt = 60) rfl (by decide : (60 : Int) ≤ (60 : Int32).toInt ∧ (60 : Int32).toInt ≤ 60) b_a1 (by decide)
        refine lv_iload_n hx hb dX10_write_52 rfl (lv_at hl 2 rfl) ?_
        refine lv_iadd hx hb dX10_write_53 ?_
        refine lv_topi (fun z_31 e_z_31 => ?_)
        obtain ⟨q_z_31, b_z_31⟩ := ti_add (lo := 0) (hi := 239) e_z_31 rfl rfl b_z_30 b_a2 (by decide)
        refine lv_lload_n hx hb dX10_write_54 rfl (lv_at hl 3 rfl) ?_
        refine lv_aload_n hx hb dX10_write_55 rfl (lv_at hl 0 rfl) ?_
        refine va_get (D := (dC, dI)) (ci := 8) (v := .ref mwi) (C := RX10) (T := TX10) (N := 33) hx hb hts iX10_write_X10 hown hK hP 0 rfl rfl 30 (by decide) (hts (.fieldLink RX10 68 "LuckyTicketModel" "width" "[I") (List.mem_of_getElem? (i := 11) rfl)) (fun _ h9 => h9) rfl dX10_write_56 ?_
        refine lv_iload_n hx hb dX10_write_59 rfl (lv_at hl 1 rfl) ?_
        refine va_iald hx hb hK hP 2 1 rfl rfl (vp_in_b b_a1 (by decide) (by decide)) dX10_write_60 ?_
        refine lv_topi (fun z_32 e_z_32 => ?_)
        have b_z_32 : (0 : Int) ≤ z_32.toInt ∧ z_32.toInt ≤ 3 := rg_at ha_mwi (vp_in_b b_a1 (by decide) (by decide)) e_z_32
        refine vp_callSl (W.runS (As := [.long a3, .int z_32]) (rest := [.int z_31, .ref mnu]) ⟨hx, hb, hml, hown, hts⟩ (kX10_cut l dC dI a3 z_32 ) (va_cwS 2 hts gX10_write__X10_cut_S467 rfl rfl rfl (by decide +kernel) ⟨lel 1 2 rfl, lel 23 45 rfl⟩) ⟨pn_fb, pn_use⟩ rfl rfl hl.1 rfl (lv_room (Nat.le_of_ble_eq_true rfl)) dX10_write_61 ⟨lel 0 0 rfl, lel 0 0 rfl⟩) (fun r_33 h_r_33 => ?_)
        refine va_last hx hb hK hP hD hS 3 2 rfl rfl (vp_in_b b_z_31 (by decide) (by decide)) dX10_write_64 (fun H locs hP hD hS => ?_)
        have hP : va_P (dC, dI) vwCl [(o0, .inr (8, [.int x_th, .ref mwo, .ref mim, .ref mhi, .ref mlu, .ref mtp, .int x_td, .ref mfv, .int x_sz, .int x_at, .int x_fr, .int x_to, .int x_va, .int x_fk, .int x_fp, .ref mfr, .ref mwt, .int x_wt, .int x_op, .int x_jo, .ref mfg, .ref mpl, .long x_dr, .ref mtm, .ref mfa, .ref mqu, .ref mmo, .ref mwy, .ref mwn, .ref mma, .ref mwi, .ref mnu, .ref mmv])), (mma, .inl (c_ma, 4, .inl w_ma)), (mwi, .inl (c_wi, 4, .inl w_wi)), (mnu, .inl (c_nu, 240, .inr (.inl (vp_updL w_nu (z_31 : Int32).toNatClampNeg r_33))))] H := hP
        have hD : va_D A [(o0, .inr (8, [.int x_th, .ref mwo, .ref mim, .ref mhi, .ref mlu, .ref mtp, .int x_td, .ref mfv, .int x_sz, .int x_at, .int x_fr, .int x_to, .int x_va, .int x_fk, .int x_fp, .ref mfr, .ref mwt, .int x_wt, .int x_op, .int x_jo, .ref mfg, .ref mpl, .long x_dr, .ref mtm, .ref mfa, .ref mqu, .ref mmo, .ref mwy, .ref mwn, .ref mma, .ref mwi, .ref mnu, .ref mmv])), (mma, .inl (c_ma, 4, .inl w_ma)), (mwi, .inl (c_wi, 4, .inl w_wi)), (mnu, .inl (c_nu, 240, .inr (.inl (vp_updL w_nu (z_31 : Int32).toNatClampNeg r_33))))] := hD
        generalize (vp_updL w_nu (z_31 : Int32).toNatClampNeg r_33) = f_34 at hP hD
        have hP : va_P (dC, dI) vwCl [(o0, .inr (8, [.int x_th, .ref mwo, .ref mim, .ref mhi, .ref mlu, .ref mtp, .int x_td, .ref mfv, .int x_sz, .int x_at, .int x_fr, .int x_to, .int x_va, .int x_fk, .int x_fp, .ref mfr, .ref mwt, .int x_wt, .int x_op, .int x_jo, .ref mfg, .ref mpl, .long x_dr, .ref mtm, .ref mfa, .ref mqu, .ref mmo, .ref mwy, .ref mwn, .ref mma, .ref mwi, .ref mnu, .ref mmv])), (mma, .inl (c_ma, 4, .inl w_ma)), (mwi, .inl (c_wi, 4, .inl w_wi)), (mnu, .inl (c_nu, 240, .inr (.inl f_34)))] H := hP
        have hD : va_D A [(o0, .inr (8, [.int x_th, .ref mwo, .ref mim, .ref mhi, .ref mlu, .ref mtp, .int x_td, .ref mfv, .int x_sz, .int x_at, .int x_fr, .int x_to, .int x_va, .int x_fk, .int x_fp, .ref mfr, .ref mwt, .int x_wt, .int x_op, .int x_jo, .ref mfg, .ref mpl, .long x_dr, .ref mtm, .ref mfa, .ref mqu, .ref mmo, .ref mwy, .ref mwn, .ref mma, .ref mwi, .ref mnu, .ref mmv])), (mma, .inl (c_ma, 4, .inl w_ma)), (mwi, .inl (c_wi, 4, .inl w_wi)), (mnu, .inl (c_nu, 240, .inr (.inl f_34)))] := hD
        refine lv_iconst (v := 0) hx hb dX10_write_65 (by decide) ?_
        have hP9 := hP.sub (ws' := [(o0, .inr (8, [.int x_th, .ref mwo, .ref mim, .ref mhi, .ref mlu, .ref mtp, .int x_td, .ref mfv, .int x_sz, .int x_at, .int x_fr, .int x_to, .int x_va, .int x_fk, .int x_fp, .ref mfr, .ref mwt, .int x_wt, .int x_op, .int x_jo, .ref mfg, .ref mpl, .long x_dr, .ref mtm, .ref mfa, .ref mqu, .ref mmo, .ref mwy, .ref mwn, .ref mma, .ref mwi, .ref mnu, .ref mmv])), (mma, .inl (c_ma, 4, .inl w_ma)), (mwi, .inl (c_wi, 4, .inl w_wi)), (mnu, .inl (c_nu, 240, .inr (.inl f_34)))]) [0, 1, 2, 3] rfl
        have hD9 := hD.sub (ws' := [(o0, .inr (8, [.int x_th, .ref mwo, .ref mim, .ref mhi, .ref mlu, .ref mtp, .int x_td, .ref mfv, .int x_sz, .int x_at, .int x_fr, .int x_to, .int x_va, .int x_fk, .int x_fp, .ref mfr, .ref mwt, .int x_wt, .int x_op, .int x_jo, .ref mfg, .ref mpl, .long x_dr, .ref mtm, .ref mfa, .ref mqu, .ref mmo, .ref mwy, .ref mwn, .ref mma, .ref mwi, .ref mnu, .ref mmv])), (mma, .inl (c_ma, 4, .inl w_ma)), (mwi, .inl (c_wi, 4, .inl w_wi)), (mnu, .inl (c_nu, 240, .inr (.inl f_34)))]) [0, 1, 2, 3] (by decide) rfl
        have hK9 := hK.sub (tys' := [(c_ma, .int), (c_wi, .int), (c_nu, .long)]) [0, 1, 2] rfl
        exact W.iret (v := 0) hx hb hr (fun t ht hW => ⟨⟨0, (), rfl, (rg_w (by decide : (0 : Int) ≤ (0 : Int32).toInt ∧ (0 : Int32).toInt ≤ 0) (by decide) (by decide)), f_34, by rw [ht]; exact hP9, va_K.moved hW.alike hK9, hD9⟩, hS.F ht⟩) hS.2.2 dX10_write_66
      ·
        have n_c_28 : (r_27.toInt : Int) = 0 := c_eq rfl (by decide) c_28
        have b_r_27 : (0 : Int) ≤ r_27.toInt ∧ r_27.toInt ≤ 0 := r_eq1 b_r_27 (by decide : (0 : Int) ≤ (0 : Int32).toInt ∧ (0 : Int32).toInt ≤ 0) n_c_28 (by decide)
        refine lv_bipush (v := (-7)) hx hb dX10_write_41 (by decide) ?_
        have hP9 := hP.sub (ws' := [(o0, .inr (8, [.int x_th, .ref mwo, .ref mim, .ref mhi, .ref mlu, .ref mtp, .int x_td, .ref mfv, .int x_sz, .int x_at, .int x_fr, .int x_to, .int x_va, .int x_fk, .int x_fp, .ref mfr, .ref mwt, .int x_wt, .int x_op, .int x_jo, .ref mfg, .ref mpl, .long x_dr, .ref mtm, .ref mfa, .ref mqu, .ref mmo, .ref mwy, .ref mwn, .ref mma, .ref mwi, .ref mnu, .ref mmv])), (mma, .inl (c_ma, 4, .inl w_ma)), (mwi, .inl (c_wi, 4, .inl w_wi)), (mnu, .inl (c_nu, 240, .inr (.inl w_nu)))]) [0, 1, 2, 3] rfl
        have hD9 := hD.sub (ws' := [(o0, .inr (8, [.int x_th, .ref mwo, .ref mim, .ref mhi, .ref mlu, .ref mtp, .int x_td, .ref mfv, .int x_sz, .int x_at, .int x_fr, .int x_to, .int x_va, .int x_fk, .int x_fp, .ref mfr, .ref mwt, .int x_wt, .int x_op, .int x_jo, .ref mfg, .ref mpl, .long x_dr, .ref mtm, .ref mfa, .ref mqu, .ref mmo, .ref mwy, .ref mwn, .ref mma, .ref mwi, .ref mnu, .ref mmv])), (mma, .inl (c_ma, 4, .inl w_ma)), (mwi, .inl (c_wi, 4, .inl w_wi)), (mnu, .inl (c_nu, 240, .inr (.inl w_nu)))]) [0, 1, 2, 3] (by decide) rfl
        have hK9 := hK.sub (tys' := [(c_ma, .int), (c_wi, .int), (c_nu, .long)]) [0, 1, 2] rfl
        exact W.iret (v := (-7)) hx hb hr (fun t ht hW => ⟨⟨(-7), (), rfl, (rg_w (by decide : (-7 : Int) ≤ ((-7) : Int32).toInt ∧ ((-7) : Int32).toInt ≤ -7) (by decide) (by decide)), w_nu, by rw [ht]; exact hP9, va_K.moved hW.alike hK9, hD9⟩, hS.F ht⟩) hS.2.2 dX10_write_43
    ·
      have n_c_22 : (z_21.toInt : Int) = (-1) := c_eq rfl (by decide) c_22
      have b_z_21 : (-1 : Int) ≤ z_21.toInt ∧ z_21.toInt ≤ -1 := r_eq1 b_z_21 (by decide : (-1 : Int) ≤ ((-1) : Int32).toInt ∧ ((-1) : Int32).toInt ≤ -1) n_c_22 (by decide)
      refine lv_bipush (v := (-6)) hx hb dX10_write_20 (by decide) ?_
      have hP9 := hP.sub (ws' := [(o0, .inr (8, [.int x_th, .ref mwo, .ref mim, .ref mhi, .ref mlu, .ref mtp, .int x_td, .ref mfv, .int x_sz, .int x_at, .int x_fr, .int x_to, .int x_va, .int x_fk, .int x_fp, .ref mfr, .ref mwt, .int x_wt, .int x_op, .int x_jo, .ref mfg, .ref mpl, .long x_dr, .ref mtm, .ref mfa, .ref mqu, .ref mmo, .ref mwy, .ref mwn, .ref mma, .ref mwi, .ref mnu, .ref mmv])), (mma, .inl (c_ma, 4, .inl w_ma)), (mwi, .inl (c_wi, 4, .inl w_wi)), (mnu, .inl (c_nu, 240, .inr (.inl w_nu)))]) [0, 1, 2, 3] rfl
      have hD9 := hD.sub (ws' := [(o0, .inr (8, [.int x_th, .ref mwo, .ref mim, .ref mhi, .ref mlu, .ref mtp, .int x_td, .ref mfv, .int x_sz, .int x_at, .int x_fr, .int x_to, .int x_va, .int x_fk, .int x_fp, .ref mfr, .ref mwt, .int x_wt, .int x_op, .int x_jo, .ref mfg, .ref mpl, .long x_dr, .ref mtm, .ref mfa, .ref mqu, .ref mmo, .ref mwy, .ref mwn, .ref mma, .ref mwi, .ref mnu, .ref mmv])), (mma, .inl (c_ma, 4, .inl w_ma)), (mwi, .inl (c_wi, 4, .inl w_wi)), (mnu, .inl (c_nu, 240, .inr (.inl w_nu)))]) [0, 1, 2, 3] (by decide) rfl
      have hK9 := hK.sub (tys' := [(c_ma, .int), (c_wi, .int), (c_nu, .long)]) [0, 1, 2] rfl
      exact W.iret (v := (-6)) hx hb hr (fun t ht hW => ⟨⟨(-6), (), rfl, (rg_w (by decide : (-6 : Int) ≤ ((-6) : Int32).toInt ∧ ((-6) : Int32).toInt ≤ -6) (by decide) (by decide)), w_nu, by rw [ht]; exact hP9, va_K.moved hW.alike hK9, hD9⟩, hS.F ht⟩) hS.2.2 dX10_write_22
  ·
    have n_c_19 : (r_18.toInt : Int) = 0 := c_eq rfl (by decide) c_19
    have b_r_18 : (0 : Int) ≤ r_18.toInt ∧ r_18.toInt ≤ 0 := r_eq1 b_r_18 (by decide : (0 : Int) ≤ (0 : Int32).toInt ∧ (0 : Int32).toInt ≤ 0) n_c_19 (by decide)
    refine lv_bipush (v := (-2)) hx hb dX10_write_7 (by decide) ?_
    have hP9 := hP.sub (ws' := [(o0, .inr (8, [.int x_th, .ref mwo, .ref mim, .ref mhi, .ref mlu, .ref mtp, .int x_td, .ref mfv, .int x_sz, .int x_at, .int x_fr, .int x_to, .int x_va, .int x_fk, .int x_fp, .ref mfr, .ref mwt, .int x_wt, .int x_op, .int x_jo, .ref mfg, .ref mpl, .long x_dr, .ref mtm, .ref mfa, .ref mqu, .ref mmo, .ref mwy, .ref mwn, .ref mma, .ref mwi, .ref mnu, .ref mmv])), (mma, .inl (c_ma, 4, .inl w_ma)), (mwi, .inl (c_wi, 4, .inl w_wi)), (mnu, .inl (c_nu, 240, .inr (.inl w_nu)))]) [0, 1, 2, 3] rfl
    have hD9 := hD.sub (ws' := [(o0, .inr (8, [.int x_th, .ref mwo, .ref mim, .ref mhi, .ref mlu, .ref mtp, .int x_td, .ref mfv, .int x_sz, .int x_at, .int x_fr, .int x_to, .int x_va, .int x_fk, .int x_fp, .ref mfr, .ref mwt, .int x_wt, .int x_op, .int x_jo, .ref mfg, .ref mpl, .long x_dr, .ref mtm, .ref mfa, .ref mqu, .ref mmo, .ref mwy, .ref mwn, .ref mma, .ref mwi, .ref mnu, .ref mmv])), (mma, .inl (c_ma, 4, .inl w_ma)), (mwi, .inl (c_wi, 4, .inl w_wi)), (mnu, .inl (c_nu, 240, .inr (.inl w_nu)))]) [0, 1, 2, 3] (by decide) rfl
    have hK9 := hK.sub (tys' := [(c_ma, .int), (c_wi, .int), (c_nu, .long)]) [0, 1, 2] rfl
    exact W.iret (v := (-2)) hx hb hr (fun t ht hW => ⟨⟨(-2), (), rfl, (rg_w (by decide : (-2 : Int) ≤ ((-2) : Int32).toInt ∧ ((-2) : Int32).toInt ≤ -2) (by decide) (by decide)), w_nu, by rw [ht]; exact hP9, va_K.moved hW.alike hK9, hD9⟩, hS.F ht⟩) hS.2.2 dX10_write_9
theorem dX10_paste_0 : decode cX10_paste 0 = .ok (.iload_n 1, 1) := by decide +kernel
theorem dX10_paste_1 : decode cX10_paste 1 = .ok (.invokestatic 369, 3) := by decide +kernel
theorem dX10_paste_4 : decode cX10_paste 4 = .ok (.ifCond .eq 10, 3) := by decide +kernel
theorem dX10_paste_7 : decode cX10_paste 7 = .ok (.iload_n 3, 1) := by decide +kernel
theorem dX10_paste_8 : decode cX10_paste 8 = .ok (.invokestatic 369, 3) := by decide +kernel
theorem dX10_paste_11 : decode cX10_paste 11 = .ok (.ifCond .ne 6, 3) := by decide +kernel
theorem dX10_paste_14 : decode cX10_paste 14 = .ok (.bipush (-2), 2) := by decide +kernel
theorem dX10_paste_16 : decode cX10_paste 16 = .ok (.ireturn, 1) := by decide +kernel
theorem dX10_paste_17 : decode cX10_paste 17 = .ok (.aload_n 0, 1) := by decide +kernel
theorem dX10_paste_18 : decode cX10_paste 18 = .ok (.getfield 65, 3) := by decide +kernel
theorem dX10_paste_21 : decode cX10_paste 21 = .ok (.iload_n 1, 1) := by decide +kernel
theorem dX10_paste_22 : decode cX10_paste 22 = .ok (.iaload, 1) := by decide +kernel
theorem dX10_paste_23 : decode cX10_paste 23 = .ok (.iconst (-1), 1) := by decide +kernel
theorem dX10_paste_24 : decode cX10_paste 24 = .ok (.if_icmp .eq 13, 3) := by decide +kernel
theorem dX10_paste_27 : decode cX10_paste 27 = .ok (.aload_n 0, 1) := by decide +kernel
theorem dX10_paste_28 : decode cX10_paste 28 = .ok (.getfield 65, 3) := by decide +kernel
theorem dX10_paste_31 : decode cX10_paste 31 = .ok (.iload_n 3, 1) := by decide +kernel
theorem dX10_paste_32 : decode cX10_paste 32 = .ok (.iaload, 1) := by decide +kernel
theorem dX10_paste_33 : decode cX10_paste 33 = .ok (.iconst (-1), 1) := by decide +kernel
theorem dX10_paste_34 : decode cX10_paste 34 = .ok (.if_icmp .ne 6, 3) := by decide +kernel
theorem dX10_paste_37 : decode cX10_paste 37 = .ok (.bipush (-6), 2) := by decide +kernel
theorem dX10_paste_39 : decode cX10_paste 39 = .ok (.ireturn, 1) := by decide +kernel
theorem dX10_paste_40 : decode cX10_paste 40 = .ok (.aload_n 0, 1) := by decide +kernel
theorem dX10_paste_41 : decode cX10_paste 41 = .ok (.getfield 68, 3) := by decide +kernel
theorem dX10_paste_44 : decode cX10_paste 44 = .ok (.iload_n 1, 1) := by decide +kernel
theorem dX10_paste_45 : decode cX10_paste 45 = .ok (.iaload, 1) := by decide +kernel
theorem dX10_paste_46 : decode cX10_paste 46 = .ok (.aload_n 0, 1) := by decide +kernel
theorem dX10_paste_47 : decode cX10_paste 47 = .ok (.getfield 68, 3) := by decide +kernel
theorem dX10_paste_50 : decode cX10_paste 50 = .ok (.iload_n 3, 1) := by decide +kernel
theorem dX10_paste_51 : decode cX10_paste 51 = .ok (.iaload, 1) := by decide +kernel
theorem dX10_paste_52 : decode cX10_paste 52 = .ok (.if_icmp .eq 6, 3) := by decide +kernel
theorem dX10_paste_55 : decode cX10_paste 55 = .ok (.bipush (-8), 2) := by decide +kernel
theorem dX10_paste_57 : decode cX10_paste 57 = .ok (.ireturn, 1) := by decide +kernel
theorem dX10_paste_58 : decode cX10_paste 58 = .ok (.iload_n 2, 1) := by decide +kernel
theorem dX10_paste_59 : decode cX10_paste 59 = .ok (.ifCond .lt 48, 3) := by decide +kernel
theorem dX10_paste_62 : decode cX10_paste 62 = .ok (.iload 4, 2) := by decide +kernel
theorem dX10_paste_64 : decode cX10_paste 64 = .ok (.ifCond .lt 43, 3) := by decide +kernel
theorem dX10_paste_67 : decode cX10_paste 67 = .ok (.iload 5, 2) := by decide +kernel
theorem dX10_paste_69 : decode cX10_paste 69 = .ok (.ifCond .lt 38, 3) := by decide +kernel
theorem dX10_paste_72 : decode cX10_paste 72 = .ok (.iload_n 2, 1) := by decide +kernel
theorem dX10_paste_73 : decode cX10_paste 73 = .ok (.i2l, 1) := by decide +kernel
theorem dX10_paste_74 : decode cX10_paste 74 = .ok (.iload 5, 2) := by decide +kernel
theorem dX10_paste_76 : decode cX10_paste 76 = .ok (.i2l, 1) := by decide +kernel
theorem dX10_paste_77 : decode cX10_paste 77 = .ok (.ladd, 1) := by decide +kernel
theorem dX10_paste_78 : decode cX10_paste 78 = .ok (.aload_n 0, 1) := by decide +kernel
theorem dX10_paste_79 : decode cX10_paste 79 = .ok (.getfield 65, 3) := by decide +kernel
theorem dX10_paste_82 : decode cX10_paste 82 = .ok (.iload_n 1, 1) := by decide +kernel
theorem dX10_paste_83 : decode cX10_paste 83 = .ok (.iaload, 1) := by decide +kernel
theorem dX10_paste_84 : decode cX10_paste 84 = .ok (.i2l, 1) := by decide +kernel
theorem dX10_paste_85 : decode cX10_paste 85 = .ok (.lcmp, 1) := by decide +kernel
theorem dX10_paste_86 : decode cX10_paste 86 = .ok (.ifCond .gt 21, 3) := by decide +kernel
theorem dX10_paste_89 : decode cX10_paste 89 = .ok (.iload 4, 2) := by decide +kernel
theorem dX10_paste_91 : decode cX10_paste 91 = .ok (.i2l, 1) := by decide +kernel
theorem dX10_paste_92 : decode cX10_paste 92 = .ok (.iload 5, 2) := by decide +kernel
theorem dX10_paste_94 : decode cX10_paste 94 = .ok (.i2l, 1) := by decide +kernel
theorem dX10_paste_95 : decode cX10_paste 95 = .ok (.ladd, 1) := by decide +kernel
theorem dX10_paste_96 : decode cX10_paste 96 = .ok (.aload_n 0, 1) := by decide +kernel
theorem dX10_paste_97 : decode cX10_paste 97 = .ok (.getfield 65, 3) := by decide +kernel
theorem dX10_paste_100 : decode cX10_paste 100 = .ok (.iload_n 3, 1) := by decide +kernel
theorem dX10_paste_101 : decode cX10_paste 101 = .ok (.iaload, 1) := by decide +kernel
theorem dX10_paste_102 : decode cX10_paste 102 = .ok (.i2l, 1) := by decide +kernel
theorem dX10_paste_103 : decode cX10_paste 103 = .ok (.lcmp, 1) := by decide +kernel
theorem dX10_paste_104 : decode cX10_paste 104 = .ok (.ifCond .le 6, 3) := by decide +kernel
theorem dX10_paste_107 : decode cX10_paste 107 = .ok (.bipush (-7), 2) := by decide +kernel
theorem dX10_paste_109 : decode cX10_paste 109 = .ok (.ireturn, 1) := by decide +kernel
theorem dX10_paste_110 : decode cX10_paste 110 = .ok (.iconst 0, 1) := by decide +kernel
theorem dX10_paste_111 : decode cX10_paste 111 = .ok (.istore 6, 2) := by decide +kernel
theorem dX10_paste_113 : decode cX10_paste 113 = .ok (.iload 6, 2) := by decide +kernel
theorem dX10_paste_115 : decode cX10_paste 115 = .ok (.iload 5, 2) := by decide +kernel
theorem dX10_paste_117 : decode cX10_paste 117 = .ok (.if_icmp .ge 30, 3) := by decide +kernel
theorem dX10_paste_120 : decode cX10_paste 120 = .ok (.aload_n 0, 1) := by decide +kernel
theorem dX10_paste_121 : decode cX10_paste 121 = .ok (.getfield 74, 3) := by decide +kernel
theorem dX10_paste_124 : decode cX10_paste 124 = .ok (.iload 6, 2) := by decide +kernel
theorem dX10_paste_126 : decode cX10_paste 126 = .ok (.aload_n 0, 1) := by decide +kernel
theorem dX10_paste_127 : decode cX10_paste 127 = .ok (.getfield 71, 3) := by decide +kernel
theorem dX10_paste_130 : decode cX10_paste 130 = .ok (.bipush 60, 2) := by decide +kernel
theorem dX10_paste_132 : decode cX10_paste 132 = .ok (.iload_n 1, 1) := by decide +kernel
theorem dX10_paste_133 : decode cX10_paste 133 = .ok (.imul, 1) := by decide +kernel
theorem dX10_paste_134 : decode cX10_paste 134 = .ok (.iload_n 2, 1) := by decide +kernel
theorem dX10_paste_135 : decode cX10_paste 135 = .ok (.iadd, 1) := by decide +kernel
theorem dX10_paste_136 : decode cX10_paste 136 = .ok (.iload 6, 2) := by decide +kernel
theorem dX10_paste_138 : decode cX10_paste 138 = .ok (.iadd, 1) := by decide +kernel
theorem dX10_paste_139 : decode cX10_paste 139 = .ok (.laload, 1) := by decide +kernel
theorem dX10_paste_140 : decode cX10_paste 140 = .ok (.lastore, 1) := by decide +kernel
theorem dX10_paste_141 : decode cX10_paste 141 = .ok (.iinc 6 1, 3) := by decide +kernel
theorem dX10_paste_144 : decode cX10_paste 144 = .ok (.goto (-31), 3) := by decide +kernel
theorem dX10_paste_147 : decode cX10_paste 147 = .ok (.iconst 0, 1) := by decide +kernel
theorem dX10_paste_148 : decode cX10_paste 148 = .ok (.istore 6, 2) := by decide +kernel
theorem dX10_paste_150 : decode cX10_paste 150 = .ok (.iload 6, 2) := by decide +kernel
theorem dX10_paste_152 : decode cX10_paste 152 = .ok (.iload 5, 2) := by decide +kernel
theorem dX10_paste_154 : decode cX10_paste 154 = .ok (.if_icmp .ge 31, 3) := by decide +kernel
theorem dX10_paste_157 : decode cX10_paste 157 = .ok (.aload_n 0, 1) := by decide +kernel
theorem dX10_paste_158 : decode cX10_paste 158 = .ok (.getfield 71, 3) := by decide +kernel
theorem dX10_paste_161 : decode cX10_paste 161 = .ok (.bipush 60, 2) := by decide +kernel
theorem dX10_paste_163 : decode cX10_paste 163 = .ok (.iload_n 3, 1) := by decide +kernel
theorem dX10_paste_164 : decode cX10_paste 164 = .ok (.imul, 1) := by decide +kernel
theorem dX10_paste_165 : decode cX10_paste 165 = .ok (.iload 4, 2) := by decide +kernel
theorem dX10_paste_167 : decode cX10_paste 167 = .ok (.iadd, 1) := by decide +kernel
theorem dX10_paste_168 : decode cX10_paste 168 = .ok (.iload 6, 2) := by decide +kernel
theorem dX10_paste_170 : decode cX10_paste 170 = .ok (.iadd, 1) := by decide +kernel
theorem dX10_paste_171 : decode cX10_paste 171 = .ok (.aload_n 0, 1) := by decide +kernel
theorem dX10_paste_172 : decode cX10_paste 172 = .ok (.getfield 74, 3) := by decide +kernel
theorem dX10_paste_175 : decode cX10_paste 175 = .ok (.iload 6, 2) := by decide +kernel
theorem dX10_paste_177 : decode cX10_paste 177 = .ok (.laload, 1) := by decide +kernel
theorem dX10_paste_178 : decode cX10_paste 178 = .ok (.lastore, 1) := by decide +kernel
theorem dX10_paste_179 : decode cX10_paste 179 = .ok (.iinc 6 1, 3) := by decide +kernel
theorem dX10_paste_182 : decode cX10_paste 182 = .ok (.goto (-32), 3) := by decide +kernel
theorem dX10_paste_185 : decode cX10_paste 185 = .ok (.iconst 0, 1) := by decide +kernel
theorem dX10_paste_186 : decode cX10_paste 186 = .ok (.ireturn, 1) := by decide +kernel
def uX10_paste : List Cond := .code yX10_paste cX10_paste 7 (some .int) :: ([.methodLink RX10 369 yX10_isSlot, .static yX10_isSlot, .initialized RX10, .code yX10_isSlot cX10_isSlot 1 (some .boolean), .constantLong RX10 375 (3), .methodLink RX10 82 yX10_in, .static yX10_in, .code yX10_in cX10_in 6 (some .boolean), .fieldLink RX10 65 "LuckyTicketModel" "many" "[I", .fieldLink RX10 68 "LuckyTicketModel" "width" "[I", .fieldLink RX10 74 "LuckyTicketModel" "moving" "[J", .fieldLink RX10 71 "LuckyTicketModel" "numbers" "[J"] ++ wsX100)
theorem iX10_paste_X10 : ∀ w ∈ wsX100, w ∈ uX10_paste := fun _ h => List.mem_cons_of_mem _ (List.mem_append_right _ h)
set_option maxRecDepth 20000 in
theorem gX10_paste__X10_isSlot_S369 : GoodIn uX10_paste (va_wsS RX10 369 yX10_isSlot uX10_isSlot) := goodIn_p _ [4, 8] rfl (by decide +kernel)
set_option maxHeartbeats 4000000 in
set_option maxRecDepth 100000 in
theorem kX10_paste (l : Launch) (dC : Nat → ClassId) (dI : Nat → Nat → Nat) (o0 : Nat) (x_th : Int32) (mwo : Nat) (mim : Nat) (mhi : Nat) (mlu : Nat) (mtp : Nat) (x_td : Int32) (mfv : Nat) (x_sz : Int32) (x_at : Int32) (x_fr : Int32) (x_to : Int32) (x_va : Int32) (x_fk : Int32) (x_fp : Int32) (mfr : Nat) (mwt : Nat) (x_wt : Int32) (x_op : Int32) (x_jo : Int32) (mfg : Nat) (mpl : Nat) (x_dr : Int64) (mtm : Nat) (mfa : Nat) (mqu : Nat) (mmo : Nat) (mwy : Nat) (mwn : Nat) (mma : Nat) (mwi : Nat) (mnu : Nat) (mmv : Nat) (c_ma : ClassId) (c_wi : ClassId) (c_nu : ClassId) (c_mv : ClassId) (w_ma : Nat → Int32) (w_wi : Nat → Int32) (w_nu : Nat → Int64) (w_mv : Nat → Int64) (a1 : Int32) (a2 : Int32) (a3 : Int32) (a4 : Int32) (a5 : Int32) (sz : Nat) (ha_mma : rg w_ma 4 (-1) 60) (ha_mwi : rg w_wi 4 0 3) : Met l yX10_paste uX10_paste ({ frames := 2, cells := 0, slots := 0, locals := 45 }) (va_Pc [.ref o0, .int a1, .int a2, .int a3, .int a4, .int a5] (hw (dC, dI) vwCl [(o0, .inr (8, [.int x_th, .ref mwo, .ref mim, .ref mhi, .ref mlu, .ref mtp, .int x_td, .ref mfv, .int x_sz, .int x_at, .int x_fr, .int x_to, .int x_va, .int x_fk, .int x_fp, .ref mfr, .ref mwt, .int x_wt, .int x_op, .int x_jo, .ref mfg, .ref mpl, .long x_dr, .ref mtm, .ref mfa, .ref mqu, .ref mmo, .ref mwy, .ref mwn, .ref mma, .ref mwi, .ref mnu, .ref mmv])), (mma, .inl (c_ma, 4, .inl w_ma)), (mwi, .inl (c_wi, 4, .inl w_wi)), (mnu, .inl (c_nu, 240, .inr (.inl w_nu))), (mmv, .inl (c_mv, 60, .inr (.inl w_mv)))] [(c_ma, .int), (c_wi, .int), (c_nu, .long), (c_mv, .long)] sz)) (va_Qi (fun (r : Int32) (_ : Unit) => ((-8 : Int) ≤ r.toInt ∧ r.toInt ≤ 0)) (fun (_ : Unit) t => ∃ (o0_ : Nat → Int64) (o1_ : Nat → Int64), va_P (dC, dI) vwCl [(o0, .inr (8, [.int x_th, .ref mwo, .ref mim, .ref mhi, .ref mlu, .ref mtp, .int x_td, .ref mfv, .int x_sz, .int x_at, .int x_fr, .int x_to, .int x_va, .int x_fk, .int x_fp, .ref mfr, .ref mwt, .int x_wt, .int x_op, .int x_jo, .ref mfg, .ref mpl, .long x_dr, .ref mtm, .ref mfa, .ref mqu, .ref mmo, .ref mwy, .ref mwn, .ref mma, .ref mwi, .ref mnu, .ref mmv])), (mma, .inl (c_ma, 4, .inl w_ma)), (mwi, .inl (c_wi, 4, .inl w_wi)), (mnu, .inl (c_nu, 240, .inr (.inl o0_))), (mmv, .inl (c_mv, 60, .inr (.inl o1_)))] t.heap ∧ va_K (dC, dI) vwCl [(c_ma, .int), (c_wi, .int), (c_nu, .long), (c_mv, .long)] t ∧ va_D (va_A [(o0, .inr (8, [.int x_th, .ref mwo, .ref mim, .ref mhi, .ref mlu, .ref mtp, .int x_td, .ref mfv, .int x_sz, .int x_at, .int x_fr, .int x_to, .int x_va, .int x_fk, .int x_fp, .ref mfr, .ref mwt, .int x_wt, .int x_op, .int x_jo, .ref mfg, .ref mpl, .long x_dr, .ref mtm, .ref mfa, .ref mqu, .ref mmo, .ref mwy, .ref mwn, .ref mma, .ref mwi, .ref mnu, .ref mmv])), (mma, .inl (c_ma, 4, .inl w_ma)), (mwi, .inl (c_wi, 4, .inl w_wi)), (mnu, .inl (c_nu, 240, .inr (.inl w_nu))), (mmv, .inl (c_mv, 60, .inr (.inl w_mv)))] sz) [(o0, .inr (8, [.int x_th, .ref mwo, .ref mim, .ref mhi, .ref mlu, .ref mtp, .int x_td, .ref mfv, .int x_sz, .int x_at, .int x_fr, .int x_to, .int x_va, .int x_fk, .int x_fp, .ref mfr, .ref mwt, .int x_wt, .int x_op, .int x_jo, .ref mfg, .ref mpl, .long x_dr, .ref mtm, .ref mfa, .ref mqu, .ref mmo, .ref mwy, .ref mwn, .ref mma, .ref mwi, .ref mnu, .ref mmv])), (mma, .inl (c_ma, 4, .inl w_ma)), (mwi, .inl (c_wi, 4, .inl w_wi)), (mnu, .inl (c_nu, 240, .inr (.inl o0_))), (mmv, .inl (c_mv, 60, .inr (.inl o1_)))]) (va_A [(o0, .inr (8, [.int x_th, .ref mwo, .ref mim, .ref mhi, .ref mlu, .ref mtp, .int x_td, .ref mfv, .int x_sz, .int x_at, .int x_fr, .int x_to, .int x_va, .int x_fk, .int x_fp, .ref mfr, .ref mwt, .int x_wt, .int x_op, .int x_jo, .ref mfg, .ref mpl, .long x_dr, .ref mtm, .ref mfa, .ref mqu, .ref mmo, .ref mwy, .ref mwn, .ref mma, .ref mwi, .ref mnu, .ref mmv])), (mma, .inl (c_ma, 4, .inl w_ma)), (mwi, .inl (c_wi, 4, .inl w_wi)), (mnu, .inl (c_nu, 240, .inr (.inl w_nu))), (mmv, .inl (c_mv, 60, .inr (.inl w_mv)))] sz)) 0 0 (va_A [(o0, .inr (8, [.int x_th, .ref mwo, .ref mim, .ref mhi, .ref mlu, .ref mtp, .int x_td, .ref mfv, .int x_sz, .int x_at, .int x_fr, .int x_to, .int x_va, .int x_fk, .int x_fp, .ref mfr, .ref mwt, .int x_wt, .int x_op, .int x_jo, .ref mfg, .ref mpl, .long x_dr, .ref mtm, .ref mfa, .ref mqu, .ref mmo, .ref mwy, .ref mwn, .ref mma, .ref mwi, .ref mnu, .ref mmv])), (mma, .inl (c_ma, 4, .inl w_ma)), (mwi, .inl (c_wi, 4, .inl w_wi)), (mnu, .inl (c_nu, 240, .inr (.inl w_nu))), (mmv, .inl (c_mv, 60, .inr (.inl w_mv)))] sz) := by
  refine Met.ofW (cc := cX10_paste) (maxL := 7) (ret := (some .int)) (by decide) rfl ?_
  intro p e s m args below meth c s₁ B hml hv
  obtain ⟨rfl, hsz, hP, hK, hD0, hN⟩ := hv
  have hx := B.exec
  have hb := B.bytes
  have hr := B.returns
  have hts := atoms_spec (ws := uX10_paste) B.pre
  have hown : s.vm.findClass RX10 = some m.cls := findClass_of_methodNamed B.named
  have hlocks := B.notSynchronized
  subst hsz
  have hD := hD0.self (sz := s.heap.size)
  generalize hAe : va_A [(o0, .inr (8, [.int x_th, .ref mwo, .ref mim, .ref mhi, .ref mlu, .ref mtp, .int x_td, .ref mfv, .int x_sz, .int x_at, .int x_fr, .int x_to, .int x_va, .int x_fk, .int x_fp, .ref mfr, .ref mwt, .int x_wt, .int x_op, .int x_jo, .ref mfg, .ref mpl, .long x_dr, .ref mtm, .ref mfa, .ref mqu, .ref mmo, .ref mwy, .ref mwn, .ref mma, .ref mwi, .ref mnu, .ref mmv])), (mma, .inl (c_ma, 4, .inl w_ma)), (mwi, .inl (c_wi, 4, .inl w_wi)), (mnu, .inl (c_nu, 240, .inr (.inl w_nu))), (mmv, .inl (c_mv, 60, .inr (.inl w_mv)))] s.heap.size = A at hD ⊢
  have hA : ∀ q : Nat, s.heap.size ≤ q → A q := fun q h => by rw [← hAe]; exact Or.inr h
  have hS : va_S A s.heap s.heap [] := va_S.rf
  have hP : va_P (dC, dI) vwCl [(o0, .inr (8, [.int x_th, .ref mwo, .ref mim, .ref mhi, .ref mlu, .ref mtp, .int x_td, .ref mfv, .int x_sz, .int x_at, .int x_fr, .int x_to, .int x_va, .int x_fk, .int x_fp, .ref mfr, .ref mwt, .int x_wt, .int x_op, .int x_jo, .ref mfg, .ref mpl, .long x_dr, .ref mtm, .ref mfa, .ref mqu, .ref mmo, .ref mwy, .ref mwn, .ref mma, .ref mwi, .ref mnu, .ref mmv])), (mma, .inl (c_ma, 4, .inl w_ma)), (mwi, .inl (c_wi, 4, .inl w_wi)), (mnu, .inl (c_nu, 240, .inr (.inl w_nu))), (mmv, .inl (c_mv, 60, .inr (.inl w_mv)))] s.heap := hP
  have hl := lv_entry ([.ref o0, .int a1, .int a2, .int a3, .int a4, .int a5]) (n := 7) (Nat.le_of_ble_eq_true rfl)
  rw [lg_entry_eq]
  generalize (lg_sl ([.ref o0, .int a1, .int a2, .int a3, .int a4, .int a5]) ++ List.replicate (7 - (lg_sl ([.ref o0, .int a1, .int a2, .int a3, .int a4, .int a5])).length) Slot.unset).toArray = ls at hl ⊢
  have hl : lv_has ls 7 [(0, .ref o0), (1, .int a1), (2, .int a2), (3, .int a3), (4, .int a4), (5, .int a5)] := hl
  refine lv_iload_n hx hb dX10_paste_0 rfl (lv_at hl 1 rfl) ?_
  refine vp_callSi (W.runS (As := [.int a1]) (rest := []) ⟨hx, hb, hml, hown, hts⟩ (kX10_isSlot l dC dI a1 ) (va_cwS 1 hts gX10_paste__X10_isSlot_S369 rfl rfl rfl (by decide +kernel) ⟨lel 2 2 rfl, lel 45 45 rfl⟩) ⟨pn_fb, pn_use⟩ rfl rfl hl.1 rfl (lv_room (Nat.le_of_ble_eq_true rfl)) dX10_paste_1 ⟨lel 0 0 rfl, lel 0 0 rfl⟩) (fun r_360 h_r_360 => ?_)
  obtain ⟨b_r_360, nz_r_360⟩ := h_r_360
  have b_r_360 : (0 : Int) ≤ r_360.toInt ∧ r_360.toInt ≤ 1 := b_r_360
  refine lv_if_eq (tgt := 14) hx hb dX10_paste_4 (by decide) (fun c_361 => ?_) (fun c_361 => ?_)
  ·
    have n_c_361 : (r_360.toInt : Int) = 0 := c_eq rfl (by decide) c_361
    have b_r_360 : (0 : Int) ≤ r_360.toInt ∧ r_360.toInt ≤ 0 := r_eq1 b_r_360 (by decide : (0 : Int) ≤ (0 : Int32).toInt ∧ (0 : Int32).toInt ≤ 0) n_c_361 (by decide)
    refine lv_bipush (v := (-2)) hx hb dX10_paste_14 (by decide) ?_
    have hP9 := hP.sub (ws' := [(o0, .inr (8, [.int x_th, .ref mwo, .ref mim, .ref mhi, .ref mlu, .ref mtp, .int x_td, .ref mfv, .int x_sz, .int x_at, .int x_fr, .int x_to, .int x_va, .int x_fk, .int x_fp, .ref mfr, .ref mwt, .int x_wt, .int x_op, .int x_jo, .ref mfg, .ref mpl, .long x_dr, .ref mtm, .ref mfa, .ref mqu, .ref mmo, .ref mwy, .ref mwn, .ref mma, .ref mwi, .ref mnu, .ref mmv])), (mma, .inl (c_ma, 4, .inl w_ma)), (mwi, .inl (c_wi, 4, .inl w_wi)), (mnu, .inl (c_nu, 240, .inr (.inl w_nu))), (mmv, .inl (c_mv, 60, .inr (.inl w_mv)))]) [0, 1, 2, 3, 4] rfl
    have hD9 := hD.sub (ws' := [(o0, .inr (8, [.int x_th, .ref mwo, .ref mim, .ref mhi, .ref mlu, .ref mtp, .int x_td, .ref mfv, .int x_sz, .int x_at, .int x_fr, .int x_to, .int x_va, .int x_fk, .int x_fp, .ref mfr, .ref mwt, .int x_wt, .int x_op, .int x_jo, .ref mfg, .ref mpl, .long x_dr, .ref mtm, .ref mfa, .ref mqu, .ref mmo, .ref mwy, .ref mwn, .ref mma, .ref mwi, .ref mnu, .ref mmv])), (mma, .inl (c_ma, 4, .inl w_ma)), (mwi, .inl (c_wi, 4, .inl w_wi)), (mnu, .inl (c_nu, 240, .inr (.inl w_nu))), (mmv, .inl (c_mv, 60, .inr (.inl w_mv)))]) [0, 1, 2, 3, 4] (by decide) rfl
    have hK9 := hK.sub (tys' := [(c_ma, .int), (c_wi, .int), (c_nu, .long), (c_mv, .long)]) [0, 1, 2, 3] rfl
    exact W.iret (v := (-2)) hx hb hr (fun t ht hW => ⟨⟨(-2), (), rfl, (rg_w (by decide : (-2 : Int) ≤ ((-2) : Int32).toInt ∧ ((-2) : Int32).toInt ≤ -2) (by decide) (by decide)), w_nu, w_mv, by rw [ht]; exact hP9, va_K.moved hW.alike hK9, hD9⟩, hS.F ht⟩) hS.2.2 dX10_paste_16
  ·
    have n_c_361 : (r_360.toInt : Int) ≠ 0 := c_ne rfl (by decide) c_361
    have b_r_360 : (1 : Int) ≤ r_360.toInt ∧ r_360.toInt ≤ 1 := r_ne1 b_r_360 (by decide : (0 : Int) ≤ (0 : Int32).toInt ∧ (0 : Int32).toInt ≤ 0) n_c_361 (by decide)
    obtain ⟨b_a1, g_362⟩ := nz_r_360 c_361
    refine lv_iload_n hx hb dX10_paste_7 rfl (lv_at hl 3 rfl) ?_
    refine vp_callSi (W.runS (As := [.int a3]) (rest := []) ⟨hx, hb, hml, hown, hts⟩ (kX10_isSlot l dC dI a3 ) (va_cwS 1 hts gX10_paste__X10_isSlot_S369 rfl rfl rfl (by decide +kernel) ⟨lel 2 2 rfl, lel 45 45 rfl⟩) ⟨pn_fb, pn_use⟩ rfl rfl hl.1 rfl (lv_room (Nat.le_of_ble_eq_true rfl)) dX10_paste_8 ⟨lel 0 0 rfl, lel 0 0 rfl⟩) (fun r_363 h_r_363 => ?_)
    obtain ⟨b_r_363, nz_r_363⟩ := h_r_363
    have b_r_363 : (0 : Int) ≤ r_363.toInt ∧ r_363.toInt ≤ 1 := b_r_363
    refine lv_if_ne (tgt := 17) hx hb dX10_paste_11 (by decide) (fun c_364 => ?_) (fun c_364 => ?_)
    ·
      have n_c_364 : (r_363.toInt : Int) ≠ 0 := c_ne rfl (by decide) c_364
      have b_r_363 : (1 : Int) ≤ r_363.toInt ∧ r_363.toInt ≤ 1 := r_ne1 b_r_363 (by decide : (0 : Int) ≤ (0 : Int32).toInt ∧ (0 : Int32).toInt ≤ 0) n_c_364 (by decide)
      obtain ⟨b_a3, g_365⟩ := nz_r_363 c_364
      refine lv_aload_n hx hb dX10_paste_17 rfl (lv_at hl 0 rfl) ?_
      refine va_get (D := (dC, dI)) (ci := 8) (v := .ref mma) (C := RX10) (T := TX10) (N := 33) hx hb hts iX10_paste_X10 hown hK hP 0 rfl rfl 29 (by decide) (hts (.fieldLink RX10 65 "LuckyTicketModel" "many" "[I") (List.mem_of_getElem? (i := 9) rfl)) (fun _ h9 => h9) rfl dX10_paste_18 ?_
      refine lv_iload_n hx hb dX10_paste_21 rfl (lv_at hl 1 rfl) ?_
      refine va_iald hx hb hK hP 1 0 rfl rfl (vp_in_b b_a1 (by decide) (by decide)) dX10_paste_22 ?_
      refine lv_topi (fun z_366 e_z_366 => ?_)
      have b_z_366 : (-1 : Int) ≤ z_366.toInt ∧ z_366.toInt ≤ 60 := rg_at ha_mma (vp_in_b b_a1 (by decide) (by decide)) e_z_366
      refine lv_iconst (v := (-1)) hx hb dX10_paste_23 (by decide) ?_
      refine lv_icmp_eq (tgt := 37) hx hb dX10_paste_24 (by decide) (fun c_367 => ?_) (fun c_367 => ?_)
      ·
        have n_c_367 : (z_366.toInt : Int) = (-1) := c_eq rfl (by decide) c_367
        have b_z_366 : (-1 : Int) ≤ z_366.toInt ∧ z_366.toInt ≤ -1 := r_eq1 b_z_366 (by decide : (-1 : Int) ≤ ((-1) : Int32).toInt ∧ ((-1) : Int32).toInt ≤ -1) n_c_367 (by decide)
        refine lv_bipush (v := (-6)) hx hb dX10_paste_37 (by decide) ?_
        have hP9 := hP.sub (ws' := [(o0, .inr (8, [.int x_th, .ref mwo, .ref mim, .ref mhi, .ref mlu, .ref mtp, .int x_td, .ref mfv, .int x_sz, .int x_at, .int x_fr, .int x_to, .int x_va, .int x_fk, .int x_fp, .ref mfr, .ref mwt, .int x_wt, .int x_op, .int x_jo, .ref mfg, .ref mpl, .long x_dr, .ref mtm, .ref mfa, .ref mqu, .ref mmo, .ref mwy, .ref mwn, .ref mma, .ref mwi, .ref mnu, .ref mmv])), (mma, .inl (c_ma, 4, .inl w_ma)), (mwi, .inl (c_wi, 4, .inl w_wi)), (mnu, .inl (c_nu, 240, .inr (.inl w_nu))), (mmv, .inl (c_mv, 60, .inr (.inl w_mv)))]) [0, 1, 2, 3, 4] rfl
        have hD9 := hD.sub (ws' := [(o0, .inr (8, [.int x_th, .ref mwo, .ref mim, .ref mhi, .ref mlu, .ref mtp, .int x_td, .ref mfv, .int x_sz, .int x_at, .int x_fr, .int x_to, .int x_va, .int x_fk, .int x_fp, .ref mfr, .ref mwt, .int x_wt, .int x_op, .int x_jo, .ref mfg, .ref mpl, .long x_dr, .ref mtm, .ref mfa, .ref mqu, .ref mmo, .ref mwy, .ref mwn, .ref mma, .ref mwi, .ref mnu, .ref mmv])), (mma, .inl (c_ma, 4, .inl w_ma)), (mwi, .inl (c_wi, 4, .inl w_wi)), (mnu, .inl (c_nu, 240, .inr (.inl w_nu))), (mmv, .inl (c_mv, 60, .inr (.inl w_mv)))]) [0, 1, 2, 3, 4] (by decide) rfl
        have hK9 := hK.sub (tys' := [(c_ma, .int), (c_wi, .int), (c_nu, .long), (c_mv, .long)]) [0, 1, 2, 3] rfl
        exact W.iret (v := (-6)) hx hb hr (fun t ht hW => ⟨⟨(-6), (), rfl, (rg_w (by decide : (-6 : Int) ≤ ((-6) : Int32).toInt ∧ ((-6) : Int32).toInt ≤ -6) (by decide) (by decide)), w_nu, w_mv, by rw [ht]; exact hP9, va_K.moved hW.alike hK9, hD9⟩, hS.F ht⟩) hS.2.2 dX10_paste_39
      ·
        have n_c_367 : (z_366.toInt : Int) ≠ (-1) := c_ne rfl (by decide) c_367
        have b_z_366 : (0 : Int) ≤ z_366.toInt ∧ z_366.toInt ≤ 60 := r_ne1 b_z_366 (by decide : (-1 : Int) ≤ ((-1) : Int32).toInt ∧ ((-1) : Int32).toInt ≤ -1) n_c_367 (by decide)
        refine lv_aload_n hx hb dX10_paste_27 rfl (lv_at hl 0 rfl) ?_
        refine va_get (D := (dC, dI)) (ci := 8) (v := .ref mma) (C := RX10) (T := TX10) (N := 33) hx hb hts iX10_paste_X10 hown hK hP 0 rfl rfl 29 (by decide) (hts (.fieldLink RX10 65 "LuckyTicketModel" "many" "[I") (List.mem_of_getElem? (i := 9) rfl)) (fun _ h9 => h9) rfl dX10_paste_28 ?_
        refine lv_iload_n hx hb dX10_paste_31 rfl (lv_at hl 3 rfl) ?_
        refine va_iald hx hb hK hP 1 0 rfl rfl (vp_in_b b_a3 (by decide) (by decide)) dX10_paste_32 ?_
        refine lv_topi (fun z_368 e_z_368 => ?_)
        have b_z_368 : (-1 : Int) ≤ z_368.toInt ∧ z_368.toInt ≤ 60 := rg_at ha_mma (vp_in_b b_a3 (by decide) (by decide)) e_z_368
        refine lv_iconst (v := (-1)) hx hb dX10_paste_33 (by decide) ?_
        refine lv_icmp_ne (tgt := 40) hx hb dX10_paste_34 (by decide) (fun c_369 => ?_) (fun c_369 => ?_)
        ·
          have n_c_369 : (z_368.toInt : Int) ≠ (-1) := c_ne rfl (by decide) c_369
          have b_z_368 : (0 : Int) ≤ z_368.toInt ∧ z_368.toInt ≤ 60 := r_ne1 b_z_368 (by decide : (-1 : Int) ≤ ((-1) : Int32).toInt ∧ ((-1) : Int32).toInt ≤ -1) n_c_369 (by decide)
          refine lv_aload_n hx hb dX10_paste_40 rfl (lv_at hl 0 rfl) ?_
          refine va_get (D := (dC, dI)) (ci := 8) (v := .ref mwi) (C := RX10) (T := TX10) (N := 33) hx hb hts iX10_paste_X10 hown hK hP 0 rfl rfl 30 (by decide) (hts (.fieldLink RX10 68 "LuckyTicketModel" "width" "[I") (List.mem_of_getElem? (i := 10) rfl)) (fun _ h9 => h9) rfl dX10_paste_41 ?_
          refine lv_iload_n hx hb dX10_paste_44 rfl (lv_at hl 1 rfl) ?_
          refine va_iald hx hb hK hP 2 1 rfl rfl (vp_in_b b_a1 (by decide) (by decide)) dX10_paste_45 ?_
          refine lv_topi (fun z_370 e_z_370 => ?_)
          have b_z_370 : (0 : Int) ≤ z_370.toInt ∧ z_370.toInt ≤ 3 := rg_at ha_mwi (vp_in_b b_a1 (by decide) (by decide)) e_z_370
          refine lv_aload_n hx hb dX10_paste_46 rfl (lv_at hl 0 rfl) ?_
          refine va_get (D := (dC, dI)) (ci := 8) (v := .ref mwi) (C := RX10) (T := TX10) (N := 33) hx hb hts iX10_paste_X10 hown hK hP 0 rfl rfl 30 (by decide) (hts (.fieldLink RX10 68 "LuckyTicketModel" "width" "[I") (List.mem_of_getElem? (i := 10) rfl)) (fun _ h9 => h9) rfl dX10_paste_47 ?_
          refine lv_iload_n hx hb dX10_paste_50 rfl (lv_at hl 3 rfl) ?_
          refine va_iald hx hb hK hP 2 1 rfl rfl (vp_in_b b_a3 (by decide) (by decide)) dX10_paste_51 ?_
          refine lv_topi (fun z_371 e_z_371 => ?_)
          have b_z_371 : (0 : Int) ≤ z_371.toInt ∧ z_371.toInt ≤ 3 := rg_at ha_mwi (vp_in_b b_a3 (by decide) (by decide)) e_z_371
          refine lv_icmp_eq (tgt := 58) hx hb dX10_paste_52 (by decide) (fun c_372 => ?_) (fun c_372 => ?_)
          ·
            have n_c_372 : (z_370.toInt : Int) = z_371.toInt := c_eq rfl rfl c_372
            refine lv_iload_n hx hb dX10_paste_58 rfl (lv_at hl 2 rfl) ?_
            refine lv_if_lt (tgt := 107) hx hb dX10_paste_59 (by decide) (fun c_373 => ?_) (fun c_373 => ?_)
            ·
              have n_c_373 : (a2.toInt : Int) < 0 := c_lt rfl (by decide) c_373
              have b_a2 : (-2147483648 : Int) ≤ a2.toInt ∧ a2.toInt ≤ -1 := r_lt1 (ti_rng a2) (by decide : (0 : Int) ≤ (0 : Int32).toInt ∧ (0 : Int32).toInt ≤ 0) n_c_373 (by decide)
              refine lv_bipush (v := (-7)) hx hb dX10_paste_107 (by decide) ?_
              have hP9 := hP.sub (ws' := [(o0, .inr (8, [.int x_th, .ref mwo, .ref mim, .ref mhi, .ref mlu, .ref mtp, .int x_td, .ref mfv, .int x_sz, .int x_at, .int x_fr, .int x_to, .int x_va, .int x_fk, .int x_fp, .ref mfr, .ref mwt, .int x_wt, .int x_op, .int x_jo, .ref mfg, .ref mpl, .long x_dr, .ref mtm, .ref mfa, .ref mqu, .ref mmo, .ref mwy, .ref mwn, .ref mma, .ref mwi, .ref mnu, .ref mmv])), (mma, .inl (c_ma, 4, .inl w_ma)), (mwi, .inl (c_wi, 4, .inl w_wi)), (mnu, .inl (c_nu, 240, .inr (.inl w_nu))), (mmv, .inl (c_mv, 60, .inr (.inl w_mv)))]) [0, 1, 2, 3, 4] rfl
              have hD9 := hD.sub (ws' := [(o0, .inr (8, [.int x_th, .ref mwo, .ref mim, .ref mhi, .ref mlu, .ref mtp, .int x_td, .ref mfv, .int x_sz, .int x_at, .int x_fr, .int x_to, .int x_va, .int x_fk, .int x_fp, .ref mfr, .ref mwt, .int x_wt, .int x_op, .int x_jo, .ref mfg, .ref mpl, .long x_dr, .ref mtm, .ref mfa, .ref mqu, .ref mmo, .ref mwy, .ref mwn, .ref mma, .ref mwi, .ref mnu, .ref mmv])), (mma, .inl (c_ma, 4, .inl w_ma)), (mwi, .inl (c_wi, 4, .inl w_wi)), (mnu, .inl (c_nu, 240, .inr (.inl w_nu))), (mmv, .inl (c_mv, 60, .inr (.inl w_mv)))]) [0, 1, 2, 3, 4] (by decide) rfl
              have hK9 := hK.sub (tys' := [(c_ma, .int), (c_wi, .int), (c_nu, .long), (c_mv, .long)]) [0, 1, 2, 3] rfl
              exact W.iret (v := (-7)) hx hb hr (fun t ht hW => ⟨⟨(-7), (), rfl, (rg_w (by decide : (-7 : Int) ≤ ((-7) : Int32).toInt ∧ ((-7) : Int32).toInt ≤ -7) (by decide) (by decide)), w_nu, w_mv, by rw [ht]; exact hP9, va_K.moved hW.alike hK9, hD9⟩, hS.F ht⟩) hS.2.2 dX10_paste_109
            ·
              have n_c_373 : (0 : Int) ≤ a2.toInt := c_nlt rfl (by decide) c_373
              have b_a2 : (0 : Int) ≤ a2.toInt ∧ a2.toInt ≤ 2147483647 := r_le2 (by decide : (0 : Int) ≤ (0 : Int32).toInt ∧ (0 : Int32).toInt ≤ 0) (ti_rng a2) n_c_373 (by decide)
              refine lv_iload hx hb dX10_paste_62 (lv_at hl 4 rfl) ?_
              refine lv_if_lt (tgt := 107) hx hb dX10_paste_64 (by decide) (fun c_374 => ?_) (fun c_374 => ?_)
              ·
                have n_c_374 : (a4.toInt : Int) < 0 := c_lt rfl (by decide) c_374
                have b_a4 : (-2147483648 : Int) ≤ a4.toInt ∧ a4.toInt ≤ -1 := r_lt1 (ti_rng a4) (by decide : (0 : Int) ≤ (0 : Int32).toInt ∧ (0 : Int32).toInt ≤ 0) n_c_374 (by decide)
                refine lv_bipush (v := (-7)) hx hb dX10_paste_107 (by decide) ?_
                have hP9 := hP.sub (ws' := [(o0, .inr (8, [.int x_th, .ref mwo, .ref mim, .ref mhi, .ref mlu, .ref mtp, .int x_td, .ref mfv, .int x_sz, .int x_at, .int x_fr, .int x_to, .int x_va, .int x_fk, .int x_fp, .ref mfr, .ref mwt, .int x_wt, .int x_op, .int x_jo, .ref mfg, .ref mpl, .long x_dr, .ref mtm, .ref mfa, .ref mqu, .ref mmo, .ref mwy, .ref mwn, .ref mma, .ref mwi, .ref mnu, .ref mmv])), (mma, .inl (c_ma, 4, .inl w_ma)), (mwi, .inl (c_wi, 4, .inl w_wi)), (mnu, .inl (c_nu, 240, .inr (.inl w_nu))), (mmv, .inl (c_mv, 60, .inr (.inl w_mv)))]) [0, 1, 2, 3, 4] rfl
                have hD9 := hD.sub (ws' := [(o0, .inr (8, [.int x_th, .ref mwo, .ref mim, .ref mhi, .ref mlu, .ref mtp, .int x_td, .ref mfv, .int x_sz, .int x_at, .int x_fr, .int x_to, .int x_va, .int x_fk, .int x_fp, .ref mfr, .ref mwt, .int x_wt, .int x_op, .int x_jo, .ref mfg, .ref mpl, .long x_dr, .ref mtm, .ref mfa, .ref mqu, .ref mmo, .ref mwy, .ref mwn, .ref mma, .ref mwi, .ref mnu, .ref mmv])), (mma, .inl (c_ma, 4, .inl w_ma)), (mwi, .inl (c_wi, 4, .inl w_wi)), (mnu, .inl (c_nu, 240, .inr (.inl w_nu))), (mmv, .inl (c_mv, 60, .inr (.inl w_mv)))]) [0, 1, 2, 3, 4] (by decide) rfl
                have hK9 := hK.sub (tys' := [(c_ma, .int), (c_wi, .int), (c_nu, .long), (c_mv, .long)]) [0, 1, 2, 3] rfl
                exact W.iret (v := (-7)) hx hb hr (fun t ht hW => ⟨⟨(-7), (), rfl, (rg_w (by decide : (-7 : Int) ≤ ((-7) : Int32).toInt ∧ ((-7) : Int32).toInt ≤ -7) (by decide) (by decide)), w_nu, w_mv, by rw [ht]; exact hP9, va_K.moved hW.alike hK9, hD9⟩, hS.F ht⟩) hS.2.2 dX10_paste_109
              ·
                have n_c_374 : (0 : Int) ≤ a4.toInt := c_nlt rfl (by decide) c_374
                have b_a4 : (0 : Int) ≤ a4.toInt ∧ a4.toInt ≤ 2147483647 := r_le2 (by decide : (0 : Int) ≤ (0 : Int32).toInt ∧ (0 : Int32).toInt ≤ 0) (ti_rng a4) n_c_374 (by decide)
                refine lv_iload hx hb dX10_paste_67 (lv_at hl 5 rfl) ?_
                refine lv_if_lt (tgt := 107) hx hb dX10_paste_69 (by decide) (fun c_375 => ?_) (fun c_375 => ?_)
                ·
                  have n_c_375 : (a5.toInt : Int) < 0 := c_lt rfl (by decide) c_375
                  have b_a5 : (-2147483648 : Int) ≤ a5.toInt ∧ a5.toInt ≤ -1 := r_lt1 (ti_rng a5) (by decide : (0 : Int) ≤ (0 : Int32).toInt ∧ (0 : Int32).toInt ≤ 0) n_c_375 (by decide)
                  refine lv_bipush (v := (-7)) hx hb dX10_paste_107 (by decide) ?_
                  have hP9 := hP.sub (ws' := [(o0, .inr (8, [.int x_th, .ref mwo, .ref mim, .ref mhi, .ref mlu, .ref mtp, .int x_td, .ref mfv, .int x_sz, .int x_at, .int x_fr, .int x_to, .int x_va, .int x_fk, .int x_fp, .ref mfr, .ref mwt, .int x_wt, .int x_op, .int x_jo, .ref mfg, .ref mpl, .long x_dr, .ref mtm, .ref mfa, .ref mqu, .ref mmo, .ref mwy, .ref mwn, .ref mma, .ref mwi, .ref mnu, .ref mmv])), (mma, .inl (c_ma, 4, .inl w_ma)), (mwi, .inl (c_wi, 4, .inl w_wi)), (mnu, .inl (c_nu, 240, .inr (.inl w_nu))), (mmv, .inl (c_mv, 60, .inr (.inl w_mv)))]) [0, 1, 2, 3, 4] rfl
                  have hD9 := hD.sub (ws' := [(o0, .inr (8, [.int x_th, .ref mwo, .ref mim, .ref mhi, .ref mlu, .ref mtp, .int x_td, .ref mfv, .int x_sz, .int x_at, .int x_fr, .int x_to, .int x_va, .int x_fk, .int x_fp, .ref mfr, .ref mwt, .int x_wt, .int x_op, .int x_jo, .ref mfg, .ref mpl, .long x_dr, .ref mtm, .ref mfa, .ref mqu, .ref mmo, .ref mwy, .ref mwn, .ref mma, .ref mwi, .ref mnu, .ref mmv])), (mma, .inl (c_ma, 4, .inl w_ma)), (mwi, .inl (c_wi, 4, .inl w_wi)), (mnu, .inl (c_nu, 240, .inr (.inl w_nu))), (mmv, .inl (c_mv, 60, .inr (.inl w_mv)))]) [0, 1, 2, 3, 4] (by decide) rfl
                  have hK9 := hK.sub (tys' := [(c_ma, .int), (c_wi, .int), (c_nu, .long), (c_mv, .long)]) [0, 1, 2, 3] rfl
                  exact W.iret (v := (-7)) hx hb hr (fun t ht hW => ⟨⟨(-7), (), rfl, (rg_w (by decide : (-7 : Int) ≤ ((-7) : Int32).toInt ∧ ((-7) : Int32).toInt ≤ -7) (by decide) (by decide)), w_nu, w_mv, by rw [ht]; exact hP9, va_K.moved hW.alike hK9, hD9⟩, hS.F ht⟩) hS.2.2 dX10_paste_109
                ·
                  have n_c_375 : (0 : Int) ≤ a5.toInt := c_nlt rfl (by decide) c_375
                  have b_a5 : (0 : Int) ≤ a5.toInt ∧ a5.toInt ≤ 2147483647 := r_le2 (by decide : (0 : Int) ≤ (0 : Int32).toInt ∧ (0 : Int32).toInt ≤ 0) (ti_rng a5) n_c_375 (by decide)
                  refine lv_iload_n hx hb dX10_paste_72 rfl (lv_at hl 2 rfl) ?_
                  obtain ⟨z_376, e_z_376⟩ : ∃ y : Int64, y = a2.toInt64 := ⟨_, rfl⟩
                  refine lv_i2l (v := z_376) hx hb dX10_paste_73 e_z_376.symm ?_
                  obtain ⟨q_z_376, b_z_376⟩ := ti_i2l e_z_376 b_a2
                  refine lv_iload hx hb dX10_paste_74 (lv_at hl 5 rfl) ?_
                  obtain ⟨z_377, e_z_377⟩ : ∃ y : Int64, y = a5.toInt64 := ⟨_, rfl⟩
                  refine lv_i2l (v := z_377) hx hb dX10_paste_76 e_z_377.symm ?_
                  obtain ⟨q_z_377, b_z_377⟩ := ti_i2l e_z_377 b_a5
                  refine lv_ladd hx hb dX10_paste_77 ?_
                  refine lv_topl (fun z_378 e_z_378 => ?_)
                  obtain ⟨q_z_378, b_z_378⟩ := tl_add (lo := 0) (hi := 4294967294) e_z_378 rfl rfl b_z_376 b_z_377 (by decide)
                  refine lv_aload_n hx hb dX10_paste_78 rfl (lv_at hl 0 rfl) ?_
                  refine va_get (D := (dC, dI)) (ci := 8) (v := .ref mma) (C := RX10) (T := TX10) (N := 33) hx hb hts iX10_paste_X10 hown hK hP 0 rfl rfl 29 (by decide) (hts (.fieldLink RX10 65 "LuckyTicketModel" "many" "[I") (List.mem_of_getElem? (i := 9) rfl)) (fun _ h9 => h9) rfl dX10_paste_79 ?_
                  refine lv_iload_n hx hb dX10_paste_82 rfl (lv_at hl 1 rfl) ?_
                  refine va_iald hx hb hK hP 1 0 rfl rfl (vp_in_b b_a1 (by decide) (by decide)) dX10_paste_83 ?_
                  refine lv_topi (fun z_379 e_z_379 => ?_)
                  have b_z_379 : (-1 : Int) ≤ z_379.toInt ∧ z_379.toInt ≤ 60 := rg_at ha_mma (vp_in_b b_a1 (by decide) (by decide)) e_z_379
                  obtain ⟨z_380, e_z_380⟩ : ∃ y : Int64, y = z_379.toInt64 := ⟨_, rfl⟩
                  refine lv_i2l (v := z_380) hx hb dX10_paste_84 e_z_380.symm ?_
                  obtain ⟨q_z_380, b_z_380⟩ := ti_i2l e_z_380 b_z_379
                  refine W.lcmp hx hb dX10_paste_85 ?_
                  refine lv_if_gt (tgt := 107) hx hb dX10_paste_86 (by decide) (fun c_381 => ?_) (fun c_381 => ?_)
                  ·
                    have n_c_381 : (z_380.toInt : Int) < z_378.toInt := g_gt rfl rfl c_381
                    refine lv_bipush (v := (-7)) hx hb dX10_paste_107 (by decide) ?_
                    have hP9 := hP.sub (ws' := [(o0, .inr (8, [.int x_th, .ref mwo, .ref mim, .ref mhi, .ref mlu, .ref mtp, .int x_td, .ref mfv, .int x_sz, .int x_at, .int x_fr, .int x_to, .int x_va, .int x_fk, .int x_fp, .ref mfr, .ref mwt, .int x_wt, .int x_op, .int x_jo, .ref mfg, .ref mpl, .long x_dr, .ref mtm, .ref mfa, .ref mqu, .ref mmo, .ref mwy, .ref mwn, .ref mma, .ref mwi, .ref mnu, .ref mmv])), (mma, .inl (c_ma, 4, .inl w_ma)), (mwi, .inl (c_wi, 4, .inl w_wi)), (mnu, .inl (c_nu, 240, .inr (.inl w_nu))), (mmv, .inl (c_mv, 60, .inr (.inl w_mv)))]) [0, 1, 2, 3, 4] rfl
                    have hD9 := hD.sub (ws' := [(o0, .inr (8, [.int x_th, .ref mwo, .ref mim, .ref mhi, .ref mlu, .ref mtp, .int x_td, .ref mfv, .int x_sz, .int x_at, .int x_fr, .int x_to, .int x_va, .int x_fk, .int x_fp, .ref mfr, .ref mwt, .int x_wt, .int x_op, .int x_jo, .ref mfg, .ref mpl, .long x_dr, .ref mtm, .ref mfa, .ref mqu, .ref mmo, .ref mwy, .ref mwn, .ref mma, .ref mwi, .ref mnu, .ref mmv])), (mma, .inl (c_ma, 4, .inl w_ma)), (mwi, .inl (c_wi, 4, .inl w_wi)), (mnu, .inl (c_nu, 240, .inr (.inl w_nu))), (mmv, .inl (c_mv, 60, .inr (.inl w_mv)))]) [0, 1, 2, 3, 4] (by decide) rfl
                    have hK9 := hK.sub (tys' := [(c_ma, .int), (c_wi, .int), (c_nu, .long), (c_mv, .long)]) [0, 1, 2, 3] rfl
                    exact W.iret (v := (-7)) hx hb hr (fun t ht hW => ⟨⟨(-7), (), rfl, (rg_w (by decide : (-7 : Int) ≤ ((-7) : Int32).toInt ∧ ((-7) : Int32).toInt ≤ -7) (by decide) (by decide)), w_nu, w_mv, by rw [ht]; exact hP9, va_K.moved hW.alike hK9, hD9⟩, hS.F ht⟩) hS.2.2 dX10_paste_109
                  ·
                    have n_c_381 : (z_378.toInt : Int) ≤ z_380.toInt := g_ngt rfl rfl c_381
                    have b_z_378 : (0 : Int) ≤ z_378.toInt ∧ z_378.toInt ≤ 60 := r_le1 b_z_378 b_z_380 n_c_381 (by decide)
                    have b_z_376 : (0 : Int) ≤ z_376.toInt ∧ z_376.toInt ≤ 60 := by
                      have q0 := b_z_378; have q1 := q_z_378; have q2 := b_z_376; have q3 := b_z_377; omega
                    have b_a2 : (0 : Int) ≤ a2.toInt ∧ a2.toInt ≤ 60 := by
                      have q0 := b_z_376; have q1 := q_z_376; have q2 := b_a2; omega
                    have b_z_377 : (0 : Int) ≤ z_377.toInt ∧ z_377.toInt ≤ 60 := by
                      have q0 := b_z_378; have q1 := q_z_378; have q2 := b_z_377; have q3 := b_z_376; omega
                    have b_a5 : (0 : Int) ≤ a5.toInt ∧ a5.toInt ≤ 60 := by
                      have q0 := b_z_377; have q1 := q_z_377; have q2 := b_a5; omega
                    have b_z_380 : (0 : Int) ≤ z_380.toInt ∧ z_380.toInt ≤ 60 := r_le2 b_z_378 b_z_380 n_c_381 (by decide)
                    have b_z_379 : (0 : Int) ≤ z_379.toInt ∧ z_379.toInt ≤ 60 := by
                      have q0 := b_z_380; have q1 := q_z_380; have q2 := b_z_379; omega
                    refine lv_iload hx hb dX10_paste_89 (lv_at hl 4 rfl) ?_
                    obtain ⟨z_382, e_z_382⟩ : ∃ y : Int64, y = a4.toInt64 := ⟨_, rfl⟩
                    refine lv_i2l (v := z_382) hx hb dX10_paste_91 e_z_382.symm ?_
                    obtain ⟨q_z_382, b_z_382⟩ := ti_i2l e_z_382 b_a4
                    refine lv_iload hx hb dX10_paste_92 (lv_at hl 5 rfl) ?_
                    obtain ⟨z_383, e_z_383⟩ : ∃ y : Int64, y = a5.toInt64 := ⟨_, rfl⟩
                    refine lv_i2l (v := z_383) hx hb dX10_paste_94 e_z_383.symm ?_
                    obtain ⟨q_z_383, b_z_383⟩ := ti_i2l e_z_383 b_a5
                    refine lv_ladd hx hb dX10_paste_95 ?_
                    refine lv_topl (fun z_384 e_z_384 => ?_)
                    obtain ⟨q_z_384, b_z_384⟩ := tl_add (lo := 0) (hi := 2147483707) e_z_384 rfl rfl b_z_382 b_z_383 (by decide)
                    refine lv_aload_n hx hb dX10_paste_96 rfl (lv_at hl 0 rfl) ?_
                    refine va_get (D := (dC, dI)) (ci := 8) (v := .ref mma) (C := RX10) (T := TX10) (N := 33) hx hb hts iX10_paste_X10 hown hK hP 0 rfl rfl 29 (by decide) (hts (.fieldLink RX10 65 "LuckyTicketModel" "many" "[I") (List.mem_of_getElem? (i := 9) rfl)) (fun _ h9 => h9) rfl dX10_paste_97 ?_
                    refine lv_iload_n hx hb dX10_paste_100 rfl (lv_at hl 3 rfl) ?_
                    refine va_iald hx hb hK hP 1 0 rfl rfl (vp_in_b b_a3 (by decide) (by decide)) dX10_paste_101 ?_
                    refine lv_topi (fun z_385 e_z_385 => ?_)
                    have b_z_385 : (-1 : Int) ≤ z_385.toInt ∧ z_385.toInt ≤ 60 := rg_at ha_mma (vp_in_b b_a3 (by decide) (by decide)) e_z_385
                    obtain ⟨z_386, e_z_386⟩ : ∃ y : Int64, y = z_385.toInt64 := ⟨_, rfl⟩
                    refine lv_i2l (v := z_386) hx hb dX10_paste_102 e_z_386.symm ?_
                    obtain ⟨q_z_386, b_z_386⟩ := ti_i2l e_z_386 b_z_385
                    refine W.lcmp hx hb dX10_paste_103 ?_
                    refine lv_if_le (tgt := 110) hx hb dX10_paste_104 (by decide) (fun c_387 => ?_) (fun c_387 => ?_)
                    ·
                      have n_c_387 : (z_384.toInt : Int) ≤ z_386.toInt := g_le rfl rfl c_387
                      have b_z_384 : (0 : Int) ≤ z_384.toInt ∧ z_384.toInt ≤ 60 := r_le1 b_z_384 b_z_386 n_c_387 (by decide)
                      have b_z_382 : (0 : Int) ≤ z_382.toInt ∧ z_382.toInt ≤ 60 := by
                        have q0 := b_z_384; have q1 := q_z_384; have q2 := b_z_382; have q3 := b_z_383; omega
                      have b_a4 : (0 : Int) ≤ a4.toInt ∧ a4.toInt ≤ 60 := by
                        have q0 := b_z_382; have q1 := q_z_382; have q2 := b_a4; omega
                      have b_z_386 : (0 : Int) ≤ z_386.toInt ∧ z_386.toInt ≤ 60 := r_le2 b_z_384 b_z_386 n_c_387 (by decide)
                      have b_z_385 : (0 : Int) ≤ z_385.toInt ∧ z_385.toInt ≤ 60 := by
                        have q0 := b_z_386; have q1 := q_z_386; have q2 := b_z_385; omega
                      refine lv_iconst (v := 0) hx hb dX10_paste_110 (by decide) ?_
                      refine lv_istore (lv' := [(6, .int 0), (0, .ref o0), (1, .int a1), (2, .int a2), (3, .int a3), (4, .int a4), (5, .int a5)]) hx hb dX10_paste_111 hl (by decide) rfl (fun ls hl => ?_)
                      refine loopW (σ := Int32 × (Nat → Int64)) (fun v => (60 - v.1.toInt).toNat) (fun v H locs ls => ((0 : Int) ≤ v.1.toInt ∧ v.1.toInt ≤ 60) ∧ va_P (dC, dI) vwCl [(o0, .inr (8, [.int x_th, .ref mwo, .ref mim, .ref mhi, .ref mlu, .ref mtp, .int x_td, .ref mfv, .int x_sz, .int x_at, .int x_fr, .int x_to, .int x_va, .int x_fk, .int x_fp, .ref mfr, .ref mwt, .int x_wt, .int x_op, .int x_jo, .ref mfg, .ref mpl, .long x_dr, .ref mtm, .ref mfa, .ref mqu, .ref mmo, .ref mwy, .ref mwn, .ref mma, .ref mwi, .ref mnu, .ref mmv])), (mma, .inl (c_ma, 4, .inl w_ma)), (mwi, .inl (c_wi, 4, .inl w_wi)), (mnu, .inl (c_nu, 240, .inr (.inl w_nu))), (mmv, .inl (c_mv, 60, .inr (.inl v.2)))] H ∧ va_D A [(o0, .inr (8, [.int x_th, .ref mwo, .ref mim, .ref mhi, .ref mlu, .ref mtp, .int x_td, .ref mfv, .int x_sz, .int x_at, .int x_fr, .int x_to, .int x_va, .int x_fk, .int x_fp, .ref mfr, .ref mwt, .int x_wt, .int x_op, .int x_jo, .ref mfg, .ref mpl, .long x_dr, .ref mtm, .ref mfa, .ref mqu, .ref mmo, .ref mwy, .ref mwn, .ref mma, .ref mwi, .ref mnu, .ref mmv])), (mma, .inl (c_ma, 4, .inl w_ma)), (mwi, .inl (c_wi, 4, .inl w_wi)), (mnu, .inl (c_nu, 240, .inr (.inl w_nu))), (mmv, .inl (c_mv, 60, .inr (.inl v.2)))] ∧ va_S A s.heap H locs ∧ lv_has ls 7 [(6, .int v.1), (0, .ref o0), (1, .int a1), (2, .int a2), (3, .int a3), (4, .int a4), (5, .int a5)]) (fun v H locs ls hI ih_113_654 => ?_) ((0 : Int32), w_mv) ⟨(show (0 : Int) ≤ (0 : Int32).toInt ∧ (0 : Int32).toInt ≤ 60 from (rg_w (by decide : (0 : Int) ≤ (0 : Int32).toInt ∧ (0 : Int32).toInt ≤ 0) (by decide) (by decide))), hP, hD, hS, lv_sub hl [0, 1, 2, 3, 4, 5, 6] rfl⟩
                      obtain ⟨y_403, f_404⟩ := v
                      obtain ⟨b_y_403, hP, hD, hS, hl⟩ := hI
                      have b_y_403 : (0 : Int) ≤ y_403.toInt ∧ y_403.toInt ≤ 60 := b_y_403
                      have hP : va_P (dC, dI) vwCl [(o0, .inr (8, [.int x_th, .ref mwo, .ref mim, .ref mhi, .ref mlu, .ref mtp, .int x_td, .ref mfv, .int x_sz, .int x_at, .int x_fr, .int x_to, .int x_va, .int x_fk, .int x_fp, .ref mfr, .ref mwt, .int x_wt, .int x_op, .int x_jo, .ref mfg, .ref mpl, .long x_dr, .ref mtm, .ref mfa, .ref mqu, .ref mmo, .ref mwy, .ref mwn, .ref mma, .ref mwi, .ref mnu, .ref mmv])), (mma, .inl (c_ma, 4, .inl w_ma)), (mwi, .inl (c_wi, 4, .inl w_wi)), (mnu, .inl (c_nu, 240, .inr (.inl w_nu))), (mmv, .inl (c_mv, 60, .inr (.inl f_404)))] H := hP
                      have hD : va_D A [(o0, .inr (8, [.int x_th, .ref mwo, .ref mim, .ref mhi, .ref mlu, .ref mtp, .int x_td, .ref mfv, .int x_sz, .int x_at, .int x_fr, .int x_to, .int x_va, .int x_fk, .int x_fp, .ref mfr, .ref mwt, .int x_wt, .int x_op, .int x_jo, .ref mfg, .ref mpl, .long x_dr, .ref mtm, .ref mfa, .ref mqu, .ref mmo, .ref mwy, .ref mwn, .ref mma, .ref mwi, .ref mnu, .ref mmv])), (mma, .inl (c_ma, 4, .inl w_ma)), (mwi, .inl (c_wi, 4, .inl w_wi)), (mnu, .inl (c_nu, 240, .inr (.inl w_nu))), (mmv, .inl (c_mv, 60, .inr (.inl f_404)))] := hD
                      have hl : lv_has ls 7 [(6, .int y_403), (0, .ref o0), (1, .int a1), (2, .int a2), (3, .int a3), (4, .int a4), (5, .int a5)] := hl
                      refine lv_iload hx hb dX10_paste_113 (lv_at hl 0 rfl) ?_
                      refine lv_iload hx hb dX10_paste_115 (lv_at hl 6 rfl) ?_
                      refine lv_icmp_ge (tgt := 147) hx hb dX10_paste_117 (by decide) (fun c_655 => ?_) (fun c_655 => ?_)
                      ·
                        have n_c_655 : (a5.toInt : Int) ≤ y_403.toInt := c_ge rfl rfl c_655
                        refine lv_iconst (v := 0) hx hb dX10_paste_147 (by decide) ?_
                        refine lv_istore (lv' := [(6, .int 0), (0, .ref o0), (1, .int a1), (2, .int a2), (3, .int a3), (4, .int a4), (5, .int a5)]) hx hb dX10_paste_148 hl (by decide) rfl (fun ls hl => ?_)
                        refine loopW (σ := Int32 × (Nat → Int64)) (fun v => (60 - v.1.toInt).toNat) (fun v H locs ls => ((0 : Int) ≤ v.1.toInt ∧ v.1.toInt ≤ 60) ∧ va_P (dC, dI) vwCl [(o0, .inr (8, [.int x_th, .ref mwo, .ref mim, .ref mhi, .ref mlu, .ref mtp, .int x_td, .ref mfv, .int x_sz, .int x_at, .int x_fr, .int x_to, .int x_va, .int x_fk, .int x_fp, .ref mfr, .ref mwt, .int x_wt, .int x_op, .int x_jo, .ref mfg, .ref mpl, .long x_dr, .ref mtm, .ref mfa, .ref mqu, .ref mmo, .ref mwy, .ref mwn, .ref mma, .ref mwi, .ref mnu, .ref mmv])), (mma, .inl (c_ma, 4, .inl w_ma)), (mwi, .inl (c_wi, 4, .inl w_wi)), (mnu, .inl (c_nu, 240, .inr (.inl v.2))), (mmv, .inl (c_mv, 60, .inr (.inl f_404)))] H ∧ va_D A [(o0, .inr (8, [.int x_th, .ref mwo, .ref mim, .ref mhi, .ref mlu, .ref mtp, .int x_td, .ref mfv, .int x_sz, .int x_at, .int x_fr, .int x_to, .int x_va, .int x_fk, .int x_fp, .ref mfr, .ref mwt, .int x_wt, .int x_op, .int x_jo, .ref mfg, .ref mpl, .long x_dr, .ref mtm, .ref mfa, .ref mqu, .ref mmo, .ref mwy, .ref mwn, .ref mma, .ref mwi, .ref mnu, .ref mmv])), (mma, .inl (c_ma, 4, .inl w_ma)), (mwi, .inl (c_wi, 4, .inl w_wi)), (mnu, .inl (c_nu, 240, .inr (.inl v.2))), (mmv, .inl (c_mv, 60, .inr (.inl f_404)))] ∧ va_S A s.heap H locs ∧ lv_has ls 7 [(6, .int v.1), (0, .ref o0), (1, .int a1), (2, .int a2), (3, .int a3), (4, .int a4), (5, .int a5)]) (fun v H locs ls hI ih_150_705 => ?_) ((0 : Int32), w_nu) ⟨(show (0 : Int) ≤ (0 : Int32).toInt ∧ (0 : Int32).toInt ≤ 60 from (rg_w (by decide : (0 : Int) ≤ (0 : Int32).toInt ∧ (0 : Int32).toInt ≤ 0) (by decide) (by decide))), hP, hD, hS, lv_sub hl [0, 1, 2, 3, 4, 5, 6] rfl⟩
                        obtain ⟨y_669, f_670⟩ := v
                        obtain ⟨b_y_669, hP, hD, hS, hl⟩ := hI
                        have b_y_669 : (0 : Int) ≤ y_669.toInt ∧ y_669.toInt ≤ 60 := b_y_669
                        have hP : va_P (dC, dI) vwCl [(o0, .inr (8, [.int x_th, .ref mwo, .ref mim, .ref mhi, .ref mlu, .ref mtp, .int x_td, .ref mfv, .int x_sz, .int x_at, .int x_fr, .int x_to, .int x_va, .int x_fk, .int x_fp, .ref mfr, .ref mwt, .int x_wt, .int x_op, .int x_jo, .ref mfg, .ref mpl, .long x_dr, .ref mtm, .ref mfa, .ref mqu, .ref mmo, .ref mwy, .ref mwn, .ref mma, .ref mwi, .ref mnu, .ref mmv])), (mma, .inl (c_ma, 4, .inl w_ma)), (mwi, .inl (c_wi, 4, .inl w_wi)), (mnu, .inl (c_nu, 240, .inr (.inl f_670))), (mmv, .inl (c_mv, 60, .inr (.inl f_404)))] H := hP
                        have hD : va_D A [(o0, .inr (8, [.int x_th, .ref mwo, .ref mim, .ref mhi, .ref mlu, .ref mtp, .int x_td, .ref mfv, .int x_sz, .int x_at, .int x_fr, .int x_to, .int x_va, .int x_fk, .int x_fp, .ref mfr, .ref mwt, .int x_wt, .int x_op, .int x_jo, .ref mfg, .ref mpl, .long x_dr, .ref mtm, .ref mfa, .ref mqu, .ref mmo, .ref mwy, .ref mwn, .ref mma, .ref mwi, .ref mnu, .ref mmv])), (mma, .inl (c_ma, 4, .inl w_ma)), (mwi, .inl (c_wi, 4, .inl w_wi)), (mnu, .inl (c_nu, 240, .inr (.inl f_670))), (mmv, .inl (c_mv, 60, .inr (.inl f_404)))] := hD
                        have hl : lv_has ls 7 [(6, .int y_669), (0, .ref o0), (1, .int a1), (2, .int a2), (3, .int a3), (4, .int a4), (5, .int a5)] := hl
                        refine lv_iload hx hb dX10_paste_150 (lv_at hl 0 rfl) ?_
                        refine lv_iload hx hb dX10_paste_152 (lv_at hl 6 rfl) ?_
                        refine lv_icmp_ge (tgt := 185) hx hb dX10_paste_154 (by decide) (fun c_706 => ?_) (fun c_706 => ?_)
                        ·
                          have n_c_706 : (a5.toInt : Int) ≤ y_669.toInt := c_ge rfl rfl c_706
                          refine lv_iconst (v := 0) hx hb dX10_paste_185 (by decide) ?_
                          have hP9 := hP.sub (ws' := [(o0, .inr (8, [.int x_th, .ref mwo, .ref mim, .ref mhi, .ref mlu, .ref mtp, .int x_td, .ref mfv, .int x_sz, .int x_at, .int x_fr, .int x_to, .int x_va, .int x_fk, .int x_fp, .ref mfr, .ref mwt, .int x_wt, .int x_op, .int x_jo, .ref mfg, .ref mpl, .long x_dr, .ref mtm, .ref mfa, .ref mqu, .ref mmo, .ref mwy, .ref mwn, .ref mma, .ref mwi, .ref mnu, .ref mmv])), (mma, .inl (c_ma, 4, .inl w_ma)), (mwi, .inl (c_wi, 4, .inl w_wi)), (mnu, .inl (c_nu, 240, .inr (.inl f_670))), (mmv, .inl (c_mv, 60, .inr (.inl f_404)))]) [0, 1, 2, 3, 4] rfl
                          have hD9 := hD.sub (ws' := [(o0, .inr (8, [.int x_th, .ref mwo, .ref mim, .ref mhi, .ref mlu, .ref mtp, .int x_td, .ref mfv, .int x_sz, .int x_at, .int x_fr, .int x_to, .int x_va, .int x_fk, .int x_fp, .ref mfr, .ref mwt, .int x_wt, .int x_op, .int x_jo, .ref mfg, .ref mpl, .long x_dr, .ref mtm, .ref mfa, .ref mqu, .ref mmo, .ref mwy, .ref mwn, .ref mma, .ref mwi, .ref mnu, .ref mmv])), (mma, .inl (c_ma, 4, .inl w_ma)), (mwi, .inl (c_wi, 4, .inl w_wi)), (mnu, .inl (c_nu, 240, .inr (.inl f_670))), (mmv, .inl (c_mv, 60, .inr (.inl f_404)))]) [0, 1, 2, 3, 4] (by decide) rfl
                          have hK9 := hK.sub (tys' := [(c_ma, .int), (c_wi, .int), (c_nu, .long), (c_mv, .long)]) [0, 1, 2, 3] rfl
                          exact W.iret (v := 0) hx hb hr (fun t ht hW => ⟨⟨0, (), rfl, (rg_w (by decide : (0 : Int) ≤ (0 : Int32).toInt ∧ (0 : Int32).toInt ≤ 0) (by decide) (by decide)), f_670, f_404, by rw [ht]; exact hP9, va_K.moved hW.alike hK9, hD9⟩, hS.F ht⟩) hS.2.2 dX10_paste_186
                        ·
                          have n_c_706 : (y_669.toInt : Int) < a5.toInt := c_nge rfl rfl c_706
                          have b_y_669 : (0 : Int) ≤ y_669.toInt ∧ y_669.toInt ≤ 59 := r_lt1 b_y_669 b_a5 n_c_706 (by decide)
                          have b_a5 : (1 : Int) ≤ a5.toInt ∧ a5.toInt ≤ 60 := r_lt2 b_y_669 b_a5 n_c_706 (by decide)
                          refine lv_aload_n hx hb dX10_paste_157 rfl (lv_at hl 1 rfl) ?_
                          refine va_get (D := (dC, dI)) (ci := 8) (v := .ref mnu) (C := RX10) (T := TX10) (N := 33) hx hb hts iX10_paste_X10 hown hK hP 0 rfl rfl 31 (by decide) (hts (.fieldLink RX10 71 "LuckyTicketModel" "numbers" "[J") (List.mem_of_getElem? (i := 12) rfl)) (fun _ h9 => h9) rfl dX10_paste_158 ?_
                          refine lv_bipush (v := 60) hx hb dX10_paste_161 (by decide) ?_
                          refine lv_iload_n hx hb dX10_paste_163 rfl (lv_at hl 4 rfl) ?_
                          refine lv_imul hx hb dX10_paste_164 ?_
                          refine lv_topi (fun z_707 e_z_707 => ?_)
                          obtain ⟨q_z_707, b_z_707⟩ := ti_mul (lo := 0) (hi := 180) e_z_707 (by decide : (60 : Int32).toInt = 60) rfl (by decide : (60 : Int) ≤ (60 : Int32).toInt ∧ (60 : Int32).toInt ≤ 60) b_a3 (by decide)
                          refine lv_iload hx hb dX10_paste_165 (lv_at hl 5 rfl) ?_
                          refine lv_iadd hx hb dX10_paste_167 ?_
                          refine lv_topi (fun z_708 e_z_708 => ?_)
                          obtain ⟨q_z_708, b_z_708⟩ := ti_add (lo := 0) (hi := 240) e_z_708 rfl rfl b_z_707 b_a4 (by decide)
                          refine lv_iload hx hb dX10_paste_168 (lv_at hl 0 rfl) ?_
                          refine lv_iadd hx hb dX10_paste_170 ?_
                          refine lv_topi (fun z_709 e_z_709 => ?_)
                          obtain ⟨q_z_709, b_z_709⟩ := ti_add (lo := 0) (hi := 299) e_z_709 rfl rfl b_z_708 b_y_669 (by decide)
                          refine lv_aload_n hx hb dX10_paste_171 rfl (lv_at hl 1 rfl) ?_
                          refine va_get (D := (dC, dI)) (ci := 8) (v := .ref mmv) (C := RX10) (T := TX10) (N := 33) hx hb hts iX10_paste_X10 hown hK hP 0 rfl rfl 32 (by decide) (hts (.fieldLink RX10 74 "LuckyTicketModel" "moving" "[J") (List.mem_of_getElem? (i := 11) rfl)) (fun _ h9 => h9) rfl dX10_paste_172 ?_
                          refine lv_iload hx hb dX10_paste_175 (lv_at hl 0 rfl) ?_
                          refine va_lald hx hb hK hP 4 3 rfl rfl (vp_in_b b_y_669 (by decide) (by decide)) dX10_paste_177 ?_
                          refine lv_topl (fun z_710 e_z_710 => ?_)
                          refine va_last hx hb hK hP hD hS 3 2 rfl rfl (vp_in_iff.mpr ⟨by omega, by omega⟩) dX10_paste_178 (fun H locs hP hD hS => ?_)
                          have hP : va_P (dC, dI) vwCl [(o0, .inr (8, [.int x_th, .ref mwo, .ref mim, .ref mhi, .ref mlu, .ref mtp, .int x_td, .ref mfv, .int x_sz, .int x_at, .int x_fr, .int x_to, .int x_va, .int x_fk, .int x_fp, .ref mfr, .ref mwt, .int x_wt, .int x_op, .int x_jo, .ref mfg, .ref mpl, .long x_dr, .ref mtm, .ref mfa, .ref mqu, .ref mmo, .ref mwy, .ref mwn, .ref mma, .ref mwi, .ref mnu, .ref mmv])), (mma, .inl (c_ma, 4, .inl w_ma)), (mwi, .inl (c_wi, 4, .inl w_wi)), (mnu, .inl (c_nu, 240, .inr (.inl (vp_updL f_670 (z_709 : Int32).toNatClampNeg z_710)))), (mmv, .inl (c_mv, 60, .inr (.inl f_404)))] H := hP
                          have hD : va_D A [(o0, .inr (8, [.int x_th, .ref mwo, .ref mim, .ref mhi, .ref mlu, .ref mtp, .int x_td, .ref mfv, .int x_sz, .int x_at, .int x_fr, .int x_to, .int x_va, .int x_fk, .int x_fp, .ref mfr, .ref mwt, .int x_wt, .int x_op, .int x_jo, .ref mfg, .ref mpl, .long x_dr, .ref mtm, .ref mfa, .ref mqu, .ref mmo, .ref mwy, .ref mwn, .ref mma, .ref mwi, .ref mnu, .ref mmv])), (mma, .inl (c_ma, 4, .inl w_ma)), (mwi, .inl (c_wi, 4, .inl w_wi)), (mnu, .inl (c_nu, 240, .inr (.inl (vp_updL f_670 (z_709 : Int32).toNatClampNeg z_710)))), (mmv, .inl (c_mv, 60, .inr (.inl f_404)))] := hD
                          generalize (vp_updL f_670 (z_709 : Int32).toNatClampNeg z_710) = f_711 at hP hD
                          have hP : va_P (dC, dI) vwCl [(o0, .inr (8, [.int x_th, .ref mwo, .ref mim, .ref mhi, .ref mlu, .ref mtp, .int x_td, .ref mfv, .int x_sz, .int x_at, .int x_fr, .int x_to, .int x_va, .int x_fk, .int x_fp, .ref mfr, .ref mwt, .int x_wt, .int x_op, .int x_jo, .ref mfg, .ref mpl, .long x_dr, .ref mtm, .ref mfa, .ref mqu, .ref mmo, .ref mwy, .ref mwn, .ref mma, .ref mwi, .ref mnu, .ref mmv])), (mma, .inl (c_ma, 4, .inl w_ma)), (mwi, .inl (c_wi, 4, .inl w_wi)), (mnu, .inl (c_nu, 240, .inr (.inl f_711))), (mmv, .inl (c_mv, 60, .inr (.inl f_404)))] H := hP
                          have hD : va_D A [(o0, .inr (8, [.int x_th, .ref mwo, .ref mim, .ref mhi, .ref mlu, .ref mtp, .int x_td, .ref mfv, .int x_sz, .int x_at, .int x_fr, .int x_to, .int x_va, .int x_fk, .int x_fp, .ref mfr, .ref mwt, .int x_wt, .int x_op, .int x_jo, .ref mfg, .ref mpl, .long x_dr, .ref mtm, .ref mfa, .ref mqu, .ref mmo, .ref mwy, .ref mwn, .ref mma, .ref mwi, .ref mnu, .ref mmv])), (mma, .inl (c_ma, 4, .inl w_ma)), (mwi, .inl (c_wi, 4, .inl w_wi)), (mnu, .inl (c_nu, 240, .inr (.inl f_711))), (mmv, .inl (c_mv, 60, .inr (.inl f_404)))] := hD
                          obtain ⟨z_712, e_z_712⟩ : ∃ y : Int32, y = y_669 + 1 := ⟨_, rfl⟩
                          refine lv_iinc (v := z_712) (lv' := [(6, .int z_712), (0, .ref o0), (1, .int a1), (2, .int a2), (3, .int a3), (4, .int a4), (5, .int a5)]) hx hb dX10_paste_179 hl (k := 0) rfl (by rw [e_z_712]; rfl) (by decide) rfl (fun ls hl => ?_)
                          obtain ⟨q_z_712, b_z_712⟩ := ti_add (lo := 1) (hi := 60) e_z_712 rfl (by decide : (1 : Int32).toInt = 1) b_y_669 (by decide : (1 : Int) ≤ (1 : Int32).toInt ∧ (1 : Int32).toInt ≤ 1) (by decide)
                          refine lv_goto (tgt := 150) hx hb dX10_paste_182 (by decide) ?_
                          exact ih_150_705 (z_712, f_711) _ _ _ ⟨(show (0 : Int) ≤ z_712.toInt ∧ z_712.toInt ≤ 60 from (rg_w b_z_712 (by decide) (by decide))), hP, hD, hS, lv_sub hl [0, 1, 2, 3, 4, 5, 6] rfl⟩ (show (60 - z_712.toInt).toNat < (60 - y_669.toInt).toNat by omega)
                      ·
                        have n_c_655 : (y_403.toInt : Int) < a5.toInt := c_nge rfl rfl c_655
                        have b_y_403 : (0 : Int) ≤ y_403.toInt ∧ y_403.toInt ≤ 59 := r_lt1 b_y_403 b_a5 n_c_655 (by decide)
                        have b_a5 : (1 : Int) ≤ a5.toInt ∧ a5.toInt ≤ 60 := r_lt2 b_y_403 b_a5 n_c_655 (by decide)
                        refine lv_aload_n hx hb dX10_paste_120 rfl (lv_at hl 1 rfl) ?_
                        refine va_get (D := (dC, dI)) (ci := 8) (v := .ref mmv) (C := RX10) (T := TX10) (N := 33) hx hb hts iX10_paste_X10 hown hK hP 0 rfl rfl 32 (by decide) (hts (.fieldLink RX10 74 "LuckyTicketModel" "moving" "[J") (List.mem_of_getElem? (i := 11) rfl)) (fun _ h9 => h9) rfl dX10_paste_121 ?_
                        refine lv_iload hx hb dX10_paste_124 (lv_at hl 0 rfl) ?_
                        refine lv_aload_n hx hb dX10_paste_126 rfl (lv_at hl 1 rfl) ?_
                        refine va_get (D := (dC, dI)) (ci := 8) (v := .ref mnu) (C := RX10) (T := TX10) (N := 33) hx hb hts iX10_paste_X10 hown hK hP 0 rfl rfl 31 (by decide) (hts (.fieldLink RX10 71 "LuckyTicketModel" "numbers" "[J") (List.mem_of_getElem? (i := 12) rfl)) (fun _ h9 => h9) rfl dX10_paste_127 ?_
                        refine lv_bipush (v := 60) hx hb dX10_paste_130 (by decide) ?_
                        refine lv_iload_n hx hb dX10_paste_132 rfl (lv_at hl 2 rfl) ?_
                        refine lv_imul hx hb dX10_paste_133 ?_
                        refine lv_topi (fun z_713 e_z_713 => ?_)
                        obtain ⟨q_z_713, b_z_713⟩ := ti_mul (lo := 0) (hi := 180) e_z_713 (by decide : (60 : Int32).toInt = 60) rfl (by decide : (60 : Int) ≤ (60 : Int32).toInt ∧ (60 : Int32).toInt ≤ 60) b_a1 (by decide)
                        refine lv_iload_n hx hb dX10_paste_134 rfl (lv_at hl 3 rfl) ?_
                        refine lv_iadd hx hb dX10_paste_135 ?_
                        refine lv_topi (fun z_714 e_z_714 => ?_)
                        obtain ⟨q_z_714, b_z_714⟩ := ti_add (lo := 0) (hi := 240) e_z_714 rfl rfl b_z_713 b_a2 (by decide)
                        refine lv_iload hx hb dX10_paste_136 (lv_at hl 0 rfl) ?_
                        refine lv_iadd hx hb dX10_paste_138 ?_
                        refine lv_topi (fun z_715 e_z_715 => ?_)
                        obtain ⟨q_z_715, b_z_715⟩ := ti_add (lo := 0) (hi := 299) e_z_715 rfl rfl b_z_714 b_y_403 (by decide)
                        refine va_lald hx hb hK hP 3 2 rfl rfl (vp_in_iff.mpr ⟨by omega, by omega⟩) dX10_paste_139 ?_
                        refine lv_topl (fun z_716 e_z_716 => ?_)
                        refine va_last hx hb hK hP hD hS 4 3 rfl rfl (vp_in_b b_y_403 (by decide) (by decide)) dX10_paste_140 (fun H locs hP hD hS => ?_)
                        have hP : va_P (dC, dI) vwCl [(o0, .inr (8, [.int x_th, .ref mwo, .ref mim, .ref mhi, .ref mlu, .ref mtp, .int x_td, .ref mfv, .int x_sz, .int x_at, .int x_fr, .int x_to, .int x_va, .int x_fk, .int x_fp, .ref mfr, .ref mwt, .int x_wt, .int x_op, .int x_jo, .ref mfg, .ref mpl, .long x_dr, .ref mtm, .ref mfa, .ref mqu, .ref mmo, .ref mwy, .ref mwn, .ref mma, .ref mwi, .ref mnu, .ref mmv])), (mma, .inl (c_ma, 4, .inl w_ma)), (mwi, .inl (c_wi, 4, .inl w_wi)), (mnu, .inl (c_nu, 240, .inr (.inl w_nu))), (mmv, .inl (c_mv, 60, .inr (.inl (vp_updL f_404 (y_403 : Int32).toNatClampNeg z_716))))] H := hP
                        have hD : va_D A [(o0, .inr (8, [.int x_th, .ref mwo, .ref mim, .ref mhi, .ref mlu, .ref mtp, .int x_td, .ref mfv, .int x_sz, .int x_at, .int x_fr, .int x_to, .int x_va, .int x_fk, .int x_fp, .ref mfr, .ref mwt, .int x_wt, .int x_op, .int x_jo, .ref mfg, .ref mpl, .long x_dr, .ref mtm, .ref mfa, .ref mqu, .ref mmo, .ref mwy, .ref mwn, .ref mma, .ref mwi, .ref mnu, .ref mmv])), (mma, .inl (c_ma, 4, .inl w_ma)), (mwi, .inl (c_wi, 4, .inl w_wi)), (mnu, .inl (c_nu, 240, .inr (.inl w_nu))), (mmv, .inl (c_mv, 60, .inr (.inl (vp_updL f_404 (y_403 : Int32).toNatClampNeg z_716))))] := hD
                        generalize (vp_updL f_404 (y_403 : Int32).toNatClampNeg z_716) = f_717 at hP hD
                        have hP : va_P (dC, dI) vwCl [(o0, .inr (8, [.int x_th, .ref mwo, .ref mim, .ref mhi, .ref mlu, .ref mtp, .int x_td, .ref mfv, .int x_sz, .int x_at, .int x_fr, .int x_to, .int x_va, .int x_fk, .int x_fp, .ref mfr, .ref mwt, .int x_wt, .int x_op, .int x_jo, .ref mfg, .ref mpl, .long x_dr, .ref mtm, .ref mfa, .ref mqu, .ref mmo, .ref mwy, .ref mwn, .ref mma, .ref mwi, .ref mnu, .ref mmv])), (mma, .inl (c_ma, 4, .inl w_ma)), (mwi, .inl (c_wi, 4, .inl w_wi)), (mnu, .inl (c_nu, 240, .inr (.inl w_nu))), (mmv, .inl (c_mv, 60, .inr (.inl f_717)))] H := hP
                        have hD : va_D A [(o0, .inr (8, [.int x_th, .ref mwo, .ref mim, .ref mhi, .ref mlu, .ref mtp, .int x_td, .ref mfv, .int x_sz, .int x_at, .int x_fr, .int x_to, .int x_va, .int x_fk, .int x_fp, .ref mfr, .ref mwt, .int x_wt, .int x_op, .int x_jo, .ref mfg, .ref mpl, .long x_dr, .ref mtm, .ref mfa, .ref mqu, .ref mmo, .ref mwy, .ref mwn, .ref mma, .ref mwi, .ref mnu, .ref mmv])), (mma, .inl (c_ma, 4, .inl w_ma)), (mwi, .inl (c_wi, 4, .inl w_wi)), (mnu, .inl (c_nu, 240, .inr (.inl w_nu))), (mmv, .inl (c_mv, 60, .inr (.inl f_717)))] := hD
                        obtain ⟨z_718, e_z_718⟩ : ∃ y : Int32, y = y_403 + 1 := ⟨_, rfl⟩
                        refine lv_iinc (v := z_718) (lv' := [(6, .int z_718), (0, .ref o0), (1, .int a1), (2, .int a2), (3, .int a3), (4, .int a4), (5, .int a5)]) hx hb dX10_paste_141 hl (k := 0) rfl (by rw [e_z_718]; rfl) (by decide) rfl (fun ls hl => ?_)
                        obtain ⟨q_z_718, b_z_718⟩ := ti_add (lo := 1) (hi := 60) e_z_718 rfl (by decide : (1 : Int32).toInt = 1) b_y_403 (by decide : (1 : Int) ≤ (1 : Int32).toInt ∧ (1 : Int32).toInt ≤ 1) (by decide)
                        refine lv_goto (tgt := 113) hx hb dX10_paste_144 (by decide) ?_
                        exact ih_113_654 (z_718, f_717) _ _ _ ⟨(show (0 : Int) ≤ z_718.toInt ∧ z_718.toInt ≤ 60 from (rg_w b_z_718 (by decide) (by decide))), hP, hD, hS, lv_sub hl [0, 1, 2, 3, 4, 5, 6] rfl⟩ (show (60 - z_718.toInt).toNat < (60 - y_403.toInt).toNat by omega)
                    ·
                      have n_c_387 : (z_386.toInt : Int) < z_384.toInt := g_nle rfl rfl c_387
                      refine lv_bipush (v := (-7)) hx hb dX10_paste_107 (by decide) ?_
                      have hP9 := hP.sub (ws' := [(o0, .inr (8, [.int x_th, .ref mwo, .ref mim, .ref mhi, .ref mlu, .ref mtp, .int x_td, .ref mfv, .int x_sz, .int x_at, .int x_fr, .int x_to, .int x_va, .int x_fk, .int x_fp, .ref mfr, .ref mwt, .int x_wt, .int x_op, .int x_jo, .ref mfg, .ref mpl, .long x_dr, .ref mtm, .ref mfa, .ref mqu, .ref mmo, .ref mwy, .ref mwn, .ref mma, .ref mwi, .ref mnu, .ref mmv])), (mma, .inl (c_ma, 4, .inl w_ma)), (mwi, .inl (c_wi, 4, .inl w_wi)), (mnu, .inl (c_nu, 240, .inr (.inl w_nu))), (mmv, .inl (c_mv, 60, .inr (.inl w_mv)))]) [0, 1, 2, 3, 4] rfl
                      have hD9 := hD.sub (ws' := [(o0, .inr (8, [.int x_th, .ref mwo, .ref mim, .ref mhi, .ref mlu, .ref mtp, .int x_td, .ref mfv, .int x_sz, .int x_at, .int x_fr, .int x_to, .int x_va, .int x_fk, .int x_fp, .ref mfr, .ref mwt, .int x_wt, .int x_op, .int x_jo, .ref mfg, .ref mpl, .long x_dr, .ref mtm, .ref mfa, .ref mqu, .ref mmo, .ref mwy, .ref mwn, .ref mma, .ref mwi, .ref mnu, .ref mmv])), (mma, .inl (c_ma, 4, .inl w_ma)), (mwi, .inl (c_wi, 4, .inl w_wi)), (mnu, .inl (c_nu, 240, .inr (.inl w_nu))), (mmv, .inl (c_mv, 60, .inr (.inl w_mv)))]) [0, 1, 2, 3, 4] (by decide) rfl
                      have hK9 := hK.sub (tys' := [(c_ma, .int), (c_wi, .int), (c_nu, .long), (c_mv, .long)]) [0, 1, 2, 3] rfl
                      exact W.iret (v := (-7)) hx hb hr (fun t ht hW => ⟨⟨(-7), (), rfl, (rg_w (by decide : (-7 : Int) ≤ ((-7) : Int32).toInt ∧ ((-7) : Int32).toInt ≤ -7) (by decide) (by decide)), w_nu, w_mv, by rw [ht]; exact hP9, va_K.moved hW.alike hK9, hD9⟩, hS.F ht⟩) hS.2.2 dX10_paste_109
          ·
            have n_c_372 : (z_370.toInt : Int) ≠ z_371.toInt := c_ne rfl rfl c_372
            refine lv_bipush (v := (-8)) hx hb dX10_paste_55 (by decide) ?_
            have hP9 := hP.sub (ws' := [(o0, .inr (8, [.int x_th, .ref mwo, .ref mim, .ref mhi, .ref mlu, .ref mtp, .int x_td, .ref mfv, .int x_sz, .int x_at, .int x_fr, .int x_to, .int x_va, .int x_fk, .int x_fp, .ref mfr, .ref mwt, .int x_wt, .int x_op, .int x_jo, .ref mfg, .ref mpl, .long x_dr, .ref mtm, .ref mfa, .ref mqu, .ref mmo, .ref mwy, .ref mwn, .ref mma, .ref mwi, .ref mnu, .ref mmv])), (mma, .inl (c_ma, 4, .inl w_ma)), (mwi, .inl (c_wi, 4, .inl w_wi)), (mnu, .inl (c_nu, 240, .inr (.inl w_nu))), (mmv, .inl (c_mv, 60, .inr (.inl w_mv)))]) [0, 1, 2, 3, 4] rfl
            have hD9 := hD.sub (ws' := [(o0, .inr (8, [.int x_th, .ref mwo, .ref mim, .ref mhi, .ref mlu, .ref mtp, .int x_td, .ref mfv, .int x_sz, .int x_at, .int x_fr, .int x_to, .int x_va, .int x_fk, .int x_fp, .ref mfr, .ref mwt, .int x_wt, .int x_op, .int x_jo, .ref mfg, .ref mpl, .long x_dr, .ref mtm, .ref mfa, .ref mqu, .ref mmo, .ref mwy, .ref mwn, .ref mma, .ref mwi, .ref mnu, .ref mmv])), (mma, .inl (c_ma, 4, .inl w_ma)), (mwi, .inl (c_wi, 4, .inl w_wi)), (mnu, .inl (c_nu, 240, .inr (.inl w_nu))), (mmv, .inl (c_mv, 60, .inr (.inl w_mv)))]) [0, 1, 2, 3, 4] (by decide) rfl
            have hK9 := hK.sub (tys' := [(c_ma, .int), (c_wi, .int), (c_nu, .long), (c_mv, .long)]) [0, 1, 2, 3] rfl
            exact W.iret (v := (-8)) hx hb hr (fun t ht hW => ⟨⟨(-8), (), rfl, (rg_w (by decide : (-8 : Int) ≤ ((-8) : Int32).toInt ∧ ((-8) : Int32).toInt ≤ -8) (by decide) (by decide)), w_nu, w_mv, by rw [ht]; exact hP9, va_K.moved hW.alike hK9, hD9⟩, hS.F ht⟩) hS.2.2 dX10_paste_57
        ·
          have n_c_369 : (z_368.toInt : Int) = (-1) := c_eq rfl (by decide) c_369
          have b_z_368 : (-1 : Int) ≤ z_368.toInt ∧ z_368.toInt ≤ -1 := r_eq1 b_z_368 (by decide : (-1 : Int) ≤ ((-1) : Int32).toInt ∧ ((-1) : Int32).toInt ≤ -1) n_c_369 (by decide)
          refine lv_bipush (v := (-6)) hx hb dX10_paste_37 (by decide) ?_
          have hP9 := hP.sub (ws' := [(o0, .inr (8, [.int x_th, .ref mwo, .ref mim, .ref mhi, .ref mlu, .ref mtp, .int x_td, .ref mfv, .int x_sz, .int x_at, .int x_fr, .int x_to, .int x_va, .int x_fk, .int x_fp, .ref mfr, .ref mwt, .int x_wt, .int x_op, .int x_jo, .ref mfg, .ref mpl, .long x_dr, .ref mtm, .ref mfa, .ref mqu, .ref mmo, .ref mwy, .ref mwn, .ref mma, .ref mwi, .ref mnu, .ref mmv])), (mma, .inl (c_ma, 4, .inl w_ma)), (mwi, .inl (c_wi, 4, .inl w_wi)), (mnu, .inl (c_nu, 240, .inr (.inl w_nu))), (mmv, .inl (c_mv, 60, .inr (.inl w_mv)))]) [0, 1, 2, 3, 4] rfl
          have hD9 := hD.sub (ws' := [(o0, .inr (8, [.int x_th, .ref mwo, .ref mim, .ref mhi, .ref mlu, .ref mtp, .int x_td, .ref mfv, .int x_sz, .int x_at, .int x_fr, .int x_to, .int x_va, .int x_fk, .int x_fp, .ref mfr, .ref mwt, .int x_wt, .int x_op, .int x_jo, .ref mfg, .ref mpl, .long x_dr, .ref mtm, .ref mfa, .ref mqu, .ref mmo, .ref mwy, .ref mwn, .ref mma, .ref mwi, .ref mnu, .ref mmv])), (mma, .inl (c_ma, 4, .inl w_ma)), (mwi, .inl (c_wi, 4, .inl w_wi)), (mnu, .inl (c_nu, 240, .inr (.inl w_nu))), (mmv, .inl (c_mv, 60, .inr (.inl w_mv)))]) [0, 1, 2, 3, 4] (by decide) rfl
          have hK9 := hK.sub (tys' := [(c_ma, .int), (c_wi, .int), (c_nu, .long), (c_mv, .long)]) [0, 1, 2, 3] rfl
          exact W.iret (v := (-6)) hx hb hr (fun t ht hW => ⟨⟨(-6), (), rfl, (rg_w (by decide : (-6 : Int) ≤ ((-6) : Int32).toInt ∧ ((-6) : Int32).toInt ≤ -6) (by decide) (by decide)), w_nu, w_mv, by rw [ht]; exact hP9, va_K.moved hW.alike hK9, hD9⟩, hS.F ht⟩) hS.2.2 dX10_paste_39
    ·
      have n_c_364 : (r_363.toInt : Int) = 0 := c_eq rfl (by decide) c_364
      have b_r_363 : (0 : Int) ≤ r_363.toInt ∧ r_363.toInt ≤ 0 := r_eq1 b_r_363 (by decide : (0 : Int) ≤ (0 : Int32).toInt ∧ (0 : Int32).toInt ≤ 0) n_c_364 (by decide)
      refine lv_bipush (v := (-2)) hx hb dX10_paste_14 (by decide) ?_
      have hP9 := hP.sub (ws' := [(o0, .inr (8, [.int x_th, .ref mwo, .ref mim, .ref mhi, .ref mlu, .ref mtp, .int x_td, .ref mfv, .int x_sz, .int x_at, .int x_fr, .int x_to, .int x_va, .int x_fk, .int x_fp, .ref mfr, .ref mwt, .int x_wt, .int x_op, .int x_jo, .ref mfg, .ref mpl, .long x_dr, .ref mtm, .ref mfa, .ref mqu, .ref mmo, .ref mwy, .ref mwn, .ref mma, .ref mwi, .ref mnu, .ref mmv])), (mma, .inl (c_ma, 4, .inl w_ma)), (mwi, .inl (c_wi, 4, .inl w_wi)), (mnu, .inl (c_nu, 240, .inr (.inl w_nu))), (mmv, .inl (c_mv, 60, .inr (.inl w_mv)))]) [0, 1, 2, 3, 4] rfl
      have hD9 := hD.sub (ws' := [(o0, .inr (8, [.int x_th, .ref mwo, .ref mim, .ref mhi, .ref mlu, .ref mtp, .int x_td, .ref mfv, .int x_sz, .int x_at, .int x_fr, .int x_to, .int x_va, .int x_fk, .int x_fp, .ref mfr, .ref mwt, .int x_wt, .int x_op, .int x_jo, .ref mfg, .ref mpl, .long x_dr, .ref mtm, .ref mfa, .ref mqu, .ref mmo, .ref mwy, .ref mwn, .ref mma, .ref mwi, .ref mnu, .ref mmv])), (mma, .inl (c_ma, 4, .inl w_ma)), (mwi, .inl (c_wi, 4, .inl w_wi)), (mnu, .inl (c_nu, 240, .inr (.inl w_nu))), (mmv, .inl (c_mv, 60, .inr (.inl w_mv)))]) [0, 1, 2, 3, 4] (by decide) rfl
      have hK9 := hK.sub (tys' := [(c_ma, .int), (c_wi, .int), (c_nu, .long), (c_mv, .long)]) [0, 1, 2, 3] rfl
      exact W.iret (v := (-2)) hx hb hr (fun t ht hW => ⟨⟨(-2), (), rfl, (rg_w (by decide : (-2 : Int) ≤ ((-2) : Int32).toInt ∧ ((-2) : Int32).toInt ≤ -2) (by decide) (by decide)), w_nu, w_mv, by rw [ht]; exact hP9, va_K.moved hW.alike hK9, hD9⟩, hS.F ht⟩) hS.2.2 dX10_paste_16
theorem dX10_count_0 : decode cX10_count 0 = .ok (.iconst 0, 1) := by decide +kernel
theorem dX10_count_1 : decode cX10_count 1 = .ok (.istore_n 2, 1) := by decide +kernel
theorem dX10_count_2 : decode cX10_count 2 = .ok (.iload_n 1, 1) := by decide +kernel
theorem dX10_count_3 : decode cX10_count 3 = .ok (.tableswitch 155 0 7 #[45, 52, 59, 66, 73, 80, 85, 122], 45) := by decide +kernel
theorem dX10_count_48 : decode cX10_count 48 = .ok (.aload_n 0, 1) := by decide +kernel
theorem dX10_count_49 : decode cX10_count 49 = .ok (.getfield 9, 3) := by decide +kernel
theorem dX10_count_52 : decode cX10_count 52 = .ok (.iconst 0, 1) := by decide +kernel
theorem dX10_count_53 : decode cX10_count 53 = .ok (.iaload, 1) := by decide +kernel
theorem dX10_count_54 : decode cX10_count 54 = .ok (.ireturn, 1) := by decide +kernel
theorem dX10_count_55 : decode cX10_count 55 = .ok (.aload_n 0, 1) := by decide +kernel
theorem dX10_count_56 : decode cX10_count 56 = .ok (.getfield 9, 3) := by decide +kernel
theorem dX10_count_59 : decode cX10_count 59 = .ok (.iconst 1, 1) := by decide +kernel
theorem dX10_count_60 : decode cX10_count 60 = .ok (.iaload, 1) := by decide +kernel
theorem dX10_count_61 : decode cX10_count 61 = .ok (.ireturn, 1) := by decide +kernel
theorem dX10_count_62 : decode cX10_count 62 = .ok (.aload_n 0, 1) := by decide +kernel
theorem dX10_count_63 : decode cX10_count 63 = .ok (.getfield 9, 3) := by decide +kernel
theorem dX10_count_66 : decode cX10_count 66 = .ok (.iconst 2, 1) := by decide +kernel
theorem dX10_count_67 : decode cX10_count 67 = .ok (.iaload, 1) := by decide +kernel
theorem dX10_count_68 : decode cX10_count 68 = .ok (.ireturn, 1) := by decide +kernel
theorem dX10_count_69 : decode cX10_count 69 = .ok (.aload_n 0, 1) := by decide +kernel
theorem dX10_count_70 : decode cX10_count 70 = .ok (.getfield 9, 3) := by decide +kernel
theorem dX10_count_73 : decode cX10_count 73 = .ok (.iconst 3, 1) := by decide +kernel
theorem dX10_count_74 : decode cX10_count 74 = .ok (.iaload, 1) := by decide +kernel
theorem dX10_count_75 : decode cX10_count 75 = .ok (.ireturn, 1) := by decide +kernel
theorem dX10_count_76 : decode cX10_count 76 = .ok (.aload_n 0, 1) := by decide +kernel
theorem dX10_count_77 : decode cX10_count 77 = .ok (.getfield 9, 3) := by decide +kernel
theorem dX10_count_80 : decode cX10_count 80 = .ok (.iconst 4, 1) := by decide +kernel
theorem dX10_count_81 : decode cX10_count 81 = .ok (.iaload, 1) := by decide +kernel
theorem dX10_count_82 : decode cX10_count 82 = .ok (.ireturn, 1) := by decide +kernel
theorem dX10_count_83 : decode cX10_count 83 = .ok (.aload_n 0, 1) := by decide +kernel
theorem dX10_count_84 : decode cX10_count 84 = .ok (.getfield 97, 3) := by decide +kernel
theorem dX10_count_87 : decode cX10_count 87 = .ok (.ireturn, 1) := by decide +kernel
theorem dX10_count_88 : decode cX10_count 88 = .ok (.iconst 0, 1) := by decide +kernel
theorem dX10_count_89 : decode cX10_count 89 = .ok (.istore_n 3, 1) := by decide +kernel
theorem dX10_count_90 : decode cX10_count 90 = .ok (.iload_n 3, 1) := by decide +kernel
theorem dX10_count_91 : decode cX10_count 91 = .ok (.aload_n 0, 1) := by decide +kernel
theorem dX10_count_92 : decode cX10_count 92 = .ok (.getfield 9, 3) := by decide +kernel
theorem dX10_count_95 : decode cX10_count 95 = .ok (.iconst 2, 1) := by decide +kernel
theorem dX10_count_96 : decode cX10_count 96 = .ok (.iaload, 1) := by decide +kernel
theorem dX10_count_97 : decode cX10_count 97 = .ok (.if_icmp .ge 26, 3) := by decide +kernel
theorem dX10_count_100 : decode cX10_count 100 = .ok (.iload_n 2, 1) := by decide +kernel
theorem dX10_count_101 : decode cX10_count 101 = .ok (.aload_n 0, 1) := by decide +kernel
theorem dX10_count_102 : decode cX10_count 102 = .ok (.getfield 20, 3) := by decide +kernel
theorem dX10_count_105 : decode cX10_count 105 = .ok (.iload_n 3, 1) := by decide +kernel
theorem dX10_count_106 : decode cX10_count 106 = .ok (.iaload, 1) := by decide +kernel
theorem dX10_count_107 : decode cX10_count 107 = .ok (.ifCond .ne 7, 3) := by decide +kernel
theorem dX10_count_110 : decode cX10_count 110 = .ok (.iconst 0, 1) := by decide +kernel
theorem dX10_count_111 : decode cX10_count 111 = .ok (.goto 4, 3) := by decide +kernel
theorem dX10_count_114 : decode cX10_count 114 = .ok (.iconst 1, 1) := by decide +kernel
theorem dX10_count_115 : decode cX10_count 115 = .ok (.iadd, 1) := by decide +kernel
theorem dX10_count_116 : decode cX10_count 116 = .ok (.istore_n 2, 1) := by decide +kernel
theorem dX10_count_117 : decode cX10_count 117 = .ok (.iinc 3 1, 3) := by decide +kernel
theorem dX10_count_120 : decode cX10_count 120 = .ok (.goto (-30), 3) := by decide +kernel
theorem dX10_count_123 : decode cX10_count 123 = .ok (.iload_n 2, 1) := by decide +kernel
theorem dX10_count_124 : decode cX10_count 124 = .ok (.ireturn, 1) := by decide +kernel
theorem dX10_count_125 : decode cX10_count 125 = .ok (.iconst 0, 1) := by decide +kernel
theorem dX10_count_126 : decode cX10_count 126 = .ok (.istore_n 3, 1) := by decide +kernel
theorem dX10_count_127 : decode cX10_count 127 = .ok (.iload_n 3, 1) := by decide +kernel
theorem dX10_count_128 : decode cX10_count 128 = .ok (.iconst 4, 1) := by decide +kernel
theorem dX10_count_129 : decode cX10_count 129 = .ok (.if_icmp .ge 27, 3) := by decide +kernel
theorem dX10_count_132 : decode cX10_count 132 = .ok (.iload_n 2, 1) := by decide +kernel
theorem dX10_count_133 : decode cX10_count 133 = .ok (.aload_n 0, 1) := by decide +kernel
theorem dX10_count_134 : decode cX10_count 134 = .ok (.getfield 65, 3) := by decide +kernel
theorem dX10_count_137 : decode cX10_count 137 = .ok (.iload_n 3, 1) := by decide +kernel
theorem dX10_count_138 : decode cX10_count 138 = .ok (.iaload, 1) := by decide +kernel
theorem dX10_count_139 : decode cX10_count 139 = .ok (.iconst (-1), 1) := by decide +kernel
theorem dX10_count_140 : decode cX10_count 140 = .ok (.if_icmp .ne 7, 3) := by decide +kernel
theorem dX10_count_143 : decode cX10_count 143 = .ok (.iconst 0, 1) := by decide +kernel
theorem dX10_count_144 : decode cX10_count 144 = .ok (.goto 4, 3) := by decide +kernel
theorem dX10_count_147 : decode cX10_count 147 = .ok (.iconst 1, 1) := by decide +kernel
theorem dX10_count_148 : decode cX10_count 148 = .ok (.iadd, 1) := by decide +kernel
theorem dX10_count_149 : decode cX10_count 149 = .ok (.istore_n 2, 1) := by decide +kernel
theorem dX10_count_150 : decode cX10_count 150 = .ok (.iinc 3 1, 3) := by decide +kernel
theorem dX10_count_153 : decode cX10_count 153 = .ok (.goto (-26), 3) := by decide +kernel
theorem dX10_count_156 : decode cX10_count 156 = .ok (.iload_n 2, 1) := by decide +kernel
theorem dX10_count_157 : decode cX10_count 157 = .ok (.ireturn, 1) := by decide +kernel
theorem dX10_count_158 : decode cX10_count 158 = .ok (.iconst (-1), 1) := by decide +kernel
theorem dX10_count_159 : decode cX10_count 159 = .ok (.ireturn, 1) := by decide +kernel
def uX10_count : List Cond := .code yX10_count cX10_count 4 (some .int) :: ([.fieldLink RX10 9 "LuckyTicketModel" "world" "[I", .fieldLink RX10 97 "LuckyTicketModel" "taped" "I", .fieldLink RX10 20 "LuckyTicketModel" "luck" "[I", .fieldLink RX10 65 "LuckyTicketModel" "many" "[I"] ++ wsX100)
theorem iX10_count_X10 : ∀ w ∈ wsX100, w ∈ uX10_count := fun _ h => List.mem_cons_of_mem _ (List.mem_append_right _ h)
set_option maxHeartbeats 4000000 in
set_option maxRecDepth 100000 in
theorem kX10_count (l : Launch) (dC : Nat → ClassId) (dI : Nat → Nat → Nat) (o0 : Nat) (x_th : Int32) (mwo : Nat) (mim : Nat) (mhi : Nat) (mlu : Nat) (mtp : Nat) (x_td : Int32) (mfv : Nat) (x_sz : Int32) (x_at : Int32) (x_fr : Int32) (x_to : Int32) (x_va : Int32) (x_fk : Int32) (x_fp : Int32) (mfr : Nat) (mwt : Nat) (x_wt : Int32) (x_op : Int32) (x_jo : Int32) (mfg : Nat) (mpl : Nat) (x_dr : Int64) (mtm : Nat) (mfa : Nat) (mqu : Nat) (mmo : Nat) (mwy : Nat) (mwn : Nat) (mma : Nat) (mwi : Nat) (mnu : Nat) (mmv : Nat) (c_wo : ClassId) (c_lu : ClassId) (c_ma : ClassId) (w_wo : Nat → Int32) (w_lu : Nat → Int32) (w_ma : Nat → Int32) (ln : Int32) (bs : Int32) (tk : Int32) (lw : Int32) (li : Int32) (a1 : Int32) (b_ln : (0 : Int) ≤ ln.toInt ∧ ln.toInt ≤ 12) (b_bs : (0 : Int) ≤ bs.toInt ∧ bs.toInt ≤ 16) (b_tk : (0 : Int) ≤ tk.toInt ∧ tk.toInt ≤ 20000) (b_lw : (0 : Int) ≤ lw.toInt ∧ lw.toInt ≤ 9) (ha_mma : rg w_ma 4 (-1) 60) (hw0 : w_wo 0 = ln) (hw1 : w_wo 1 = bs) (hw2 : w_wo 2 = tk) (hw3 : w_wo 3 = lw) (hw4 : w_wo 4 = li) (hwz : (ln.toInt = 0 ∧ bs.toInt = 0 ∧ tk.toInt = 0 ∧ lw.toInt = 0) ∨ (1 ≤ ln.toInt ∧ 2 ≤ bs.toInt ∧ 1 ≤ tk.toInt)) : Met l yX10_count uX10_count ({ frames := 0, cells := 0, slots := 0, locals := 0 }) (va_Pc [.ref o0, .int a1] (pw (dC, dI) vwCl [(o0, .inr (8, [.int x_th, .ref mwo, .ref mim, .ref mhi, .ref mlu, .ref mtp, .int x_td, .ref mfv, .int x_sz, .int x_at, .int x_fr, .int x_to, .int x_va, .int x_fk, .int x_fp, .ref mfr, .ref mwt, .int x_wt, .int x_op, .int x_jo, .ref mfg, .ref mpl, .long x_dr, .ref mtm, .ref mfa, .ref mqu, .ref mmo, .ref mwy, .ref mwn, .ref mma, .ref mwi, .ref mnu, .ref mmv])), (mwo, .inl (c_wo, 1875, .inl w_wo)), (mlu, .inl (c_lu, 20000, .inl w_lu)), (mma, .inl (c_ma, 4, .inl w_ma))] [(c_wo, .int), (c_lu, .int), (c_ma, .int)])) (vp_Si (fun r => True)) 0 0 (fun _ => False) := by
  refine Met.ofW (cc := cX10_count) (maxL := 4) (ret := (some .int)) (by decide) rfl ?_
  intro p e s m args below meth c s₁ B hml hv
  obtain ⟨rfl, hP, hK, hN⟩ := hv
  have hx := B.exec
  have hb := B.bytes
  have hr := B.returns
  have hts := atoms_spec (ws := uX10_count) B.pre
  have hown : s.vm.findClass RX10 = some m.cls := findClass_of_methodNamed B.named
  have hlocks := B.notSynchronized
  have hl := lv_entry ([.ref o0, .int a1]) (n := 4) (Nat.le_of_ble_eq_true rfl)
  rw [lg_entry_eq]
  generalize (lg_sl ([.ref o0, .int a1]) ++ List.replicate (4 - (lg_sl ([.ref o0, .int a1])).length) Slot.unset).toArray = ls at hl ⊢
  have hl : lv_has ls 4 [(0, .ref o0), (1, .int a1)] := hl
  refine lv_iconst (v := 0) hx hb dX10_count_0 (by decide) ?_
  refine lv_istore_n (lv' := [(2, .int 0), (0, .ref o0), (1, .int a1)]) hx hb dX10_count_1 rfl hl (by decide) rfl (fun ls hl => ?_)
  refine lv_iload_n hx hb dX10_count_2 rfl (lv_at hl 2 rfl) ?_
  rcases (show (a1.toInt < 0 ∨ 7 < a1.toInt) ∨ a1.toInt = 0 ∨ a1.toInt = 1 ∨ a1.toInt = 2 ∨ a1.toInt = 3 ∨ a1.toInt = 4 ∨ a1.toInt = 5 ∨ a1.toInt = 6 ∨ a1.toInt = 7 by omega) with c_238 | c_238 | c_238 | c_238 | c_238 | c_238 | c_238 | c_238 | c_238
  ·
    refine lv_tableOut (tgt := 158) hx hb dX10_count_3 c_238 (by decide) ?_
    refine lv_iconst (v := (-1)) hx hb dX10_count_158 (by decide) ?_
    exact W.iret (v := (-1)) hx hb hr (fun t ht hW => ⟨(-1), rfl, trivial, ht⟩) t_nil dX10_count_159
  ·
    refine lv_tableIn (off := 45) (tgt := 48) hx hb dX10_count_3 (by omega) (by omega) (by rw [c_238]; rfl) (by decide) ?_
    have b_a1 : (0 : Int) ≤ a1.toInt ∧ a1.toInt ≤ 0 := ⟨by omega, by omega⟩
    refine lv_aload_n hx hb dX10_count_48 rfl (lv_at hl 1 rfl) ?_
    refine va_get (D := (dC, dI)) (ci := 8) (v := .ref mwo) (C := RX10) (T := TX10) (N := 33) hx hb hts iX10_count_X10 hown hK hP 0 rfl rfl 1 (by decide) (hts (.fieldLink RX10 9 "LuckyTicketModel" "world" "[I") (List.mem_of_getElem? (i := 1) rfl)) (fun _ h9 => h9) rfl dX10_count_49 ?_
    refine lv_iconst (v := 0) hx hb dX10_count_52 (by decide) ?_
    refine va_iald hx hb hK hP 1 0 rfl rfl (vp_in_b (by decide : (0 : Int) ≤ (0 : Int32).toInt ∧ (0 : Int32).toInt ≤ 0) (by decide) (by decide)) dX10_count_53 ?_
    refine lv_topi (fun z_239 e_z_239 => ?_)
    obtain rfl : z_239 = ln := e_z_239.trans hw0
    exact W.iret (v := ln) hx hb hr (fun t ht hW => ⟨ln, rfl, trivial, ht⟩) t_nil dX10_count_54
  ·
    refine lv_tableIn (off := 52) (tgt := 55) hx hb dX10_count_3 (by omega) (by omega) (by rw [c_238]; rfl) (by decide) ?_
    have b_a1 : (1 : Int) ≤ a1.toInt ∧ a1.toInt ≤ 1 := ⟨by omega, by omega⟩
    refine lv_aload_n hx hb dX10_count_55 rfl (lv_at hl 1 rfl) ?_
    refine va_get (D := (dC, dI)) (ci := 8) (v := .ref mwo) (C := RX10) (T := TX10) (N := 33) hx hb hts iX10_count_X10 hown hK hP 0 rfl rfl 1 (by decide) (hts (.fieldLink RX10 9 "LuckyTicketModel" "world" "[I") (List.mem_of_getElem? (i := 1) rfl)) (fun _ h9 => h9) rfl dX10_count_56 ?_
    refine lv_iconst (v := 1) hx hb dX10_count_59 (by decide) ?_
    refine va_iald hx hb hK hP 1 0 rfl rfl (vp_in_b (by decide : (1 : Int) ≤ (1 : Int32).toInt ∧ (1 : Int32).toInt ≤ 1) (by decide) (by decide)) dX10_count_60 ?_
    refine lv_topi (fun z_240 e_z_240 => ?_)
    obtain rfl : z_240 = bs := e_z_240.trans hw1
    exact W.iret (v := bs) hx hb hr (fun t ht hW => ⟨bs, rfl, trivial, ht⟩) t_nil dX10_count_61
  ·
    refine lv_tableIn (off := 59) (tgt := 62) hx hb dX10_count_3 (by omega) (by omega) (by rw [c_238]; rfl) (by decide) ?_
    have b_a1 : (2 : Int) ≤ a1.toInt ∧ a1.toInt ≤ 2 := ⟨by omega, by omega⟩
    refine lv_aload_n hx hb dX10_count_62 rfl (lv_at hl 1 rfl) ?_
    refine va_get (D := (dC, dI)) (ci := 8) (v := .ref mwo) (C := RX10) (T := TX10) (N := 33) hx hb hts iX10_count_X10 hown hK hP 0 rfl rfl 1 (by decide) (hts (.fieldLink RX10 9 "LuckyTicketModel" "world" "[I") (List.mem_of_getElem? (i := 1) rfl)) (fun _ h9 => h9) rfl dX10_count_63 ?_
    refine lv_iconst (v := 2) hx hb dX10_count_66 (by decide) ?_
    refine va_iald hx hb hK hP 1 0 rfl rfl (vp_in_b (by decide : (2 : Int) ≤ (2 : Int32).toInt ∧ (2 : Int32).toInt ≤ 2) (by decide) (by decide)) dX10_count_67 ?_
    refine lv_topi (fun z_241 e_z_241 => ?_)
    obtain rfl : z_241 = tk := e_z_241.trans hw2
    exact W.iret (v := tk) hx hb hr (fun t ht hW => ⟨tk, rfl, trivial, ht⟩) t_nil dX10_count_68
  ·
    refine lv_tableIn (off := 66) (tgt := 69) hx hb dX10_count_3 (by omega) (by omega) (by rw [c_238]; rfl) (by decide) ?_
    have b_a1 : (3 : Int) ≤ a1.toInt ∧ a1.toInt ≤ 3 := ⟨by omega, by omega⟩
    refine lv_aload_n hx hb dX10_count_69 rfl (lv_at hl 1 rfl) ?_
    refine va_get (D := (dC, dI)) (ci := 8) (v := .ref mwo) (C := RX10) (T := TX10) (N := 33) hx hb hts iX10_count_X10 hown hK hP 0 rfl rfl 1 (by decide) (hts (.fieldLink RX10 9 "LuckyTicketModel" "world" "[I") (List.mem_of_getElem? (i := 1) rfl)) (fun _ h9 => h9) rfl dX10_count_70 ?_
    refine lv_iconst (v := 3) hx hb dX10_count_73 (by decide) ?_
    refine va_iald hx hb hK hP 1 0 rfl rfl (vp_in_b (by decide : (3 : Int) ≤ (3 : Int32).toInt ∧ (3 : Int32).toInt ≤ 3) (by decide) (by decide)) dX10_count_74 ?_
    refine lv_topi (fun z_242 e_z_242 => ?_)
    obtain rfl : z_242 = lw := e_z_242.trans hw3
    exact W.iret (v := lw) hx hb hr (fun t ht hW => ⟨lw, rfl, trivial, ht⟩) t_nil dX10_count_75
  ·
    refine lv_tableIn (off := 73) (tgt := 76) hx hb dX10_count_3 (by omega) (by omega) (by rw [c_238]; rfl) (by decide) ?_
    have b_a1 : (4 : Int) ≤ a1.toInt ∧ a1.toInt ≤ 4 := ⟨by omega, by omega⟩
    refine lv_aload_n hx hb dX10_count_76 rfl (lv_at hl 1 rfl) ?_
    refine va_get (D := (dC, dI)) (ci := 8) (v := .ref mwo) (C := RX10) (T := TX10) (N := 33) hx hb hts iX10_count_X10 hown hK hP 0 rfl rfl 1 (by decide) (hts (.fieldLink RX10 9 "LuckyTicketModel" "world" "[I") (List.mem_of_getElem? (i := 1) rfl)) (fun _ h9 => h9) rfl dX10_count_77 ?_
    refine lv_iconst (v := 4) hx hb dX10_count_80 (by decide) ?_
    refine va_iald hx hb hK hP 1 0 rfl rfl (vp_in_b (by decide : (4 : Int) ≤ (4 : Int32).toInt ∧ (4 : Int32).toInt ≤ 4) (by decide) (by decide)) dX10_count_81 ?_
    refine lv_topi (fun z_243 e_z_243 => ?_)
    obtain rfl : z_243 = li := e_z_243.trans hw4
    exact W.iret (v := li) hx hb hr (fun t ht hW => ⟨li, rfl, trivial, ht⟩) t_nil dX10_count_82
  ·
    refine lv_tableIn (off := 80) (tgt := 83) hx hb dX10_count_3 (by omega) (by omega) (by rw [c_238]; rfl) (by decide) ?_
    have b_a1 : (5 : Int) ≤ a1.toInt ∧ a1.toInt ≤ 5 := ⟨by omega, by omega⟩
    refine lv_aload_n hx hb dX10_count_83 rfl (lv_at hl 1 rfl) ?_
    refine va_get (D := (dC, dI)) (ci := 8) (v := .int x_td) (C := RX10) (T := TX10) (N := 33) hx hb hts iX10_count_X10 hown hK hP 0 rfl rfl 6 (by decide) (hts (.fieldLink RX10 97 "LuckyTicketModel" "taped" "I") (List.mem_of_getElem? (i := 2) rfl)) (fun _ h9 => h9) rfl dX10_count_84 ?_
    exact W.iret (v := x_td) hx hb hr (fun t ht hW => ⟨x_td, rfl, trivial, ht⟩) t_nil dX10_count_87
  ·
    refine lv_tableIn (off := 85) (tgt := 88) hx hb dX10_count_3 (by omega) (by omega) (by rw [c_238]; rfl) (by decide) ?_
    have b_a1 : (6 : Int) ≤ a1.toInt ∧ a1.toInt ≤ 6 := ⟨by omega, by omega⟩
    refine lv_iconst (v := 0) hx hb dX10_count_88 (by decide) ?_
    refine lv_istore_n (lv' := [(3, .int 0), (2, .int 0), (0, .ref o0), (1, .int a1)]) hx hb dX10_count_89 rfl hl (by decide) rfl (fun ls hl => ?_)
    refine loopP (σ := Int32 × Int32) (fun v => (20000 - v.1.toInt).toNat) (fun v ls => ((0 : Int) ≤ v.1.toInt ∧ v.1.toInt ≤ 20000) ∧ lv_has ls 4 [(3, .int v.1), (2, .int v.2), (0, .ref o0), (1, .int a1)]) (fun v ls hI ih_90_357 => ?_) ((0 : Int32), (0 : Int32)) ⟨(show (0 : Int) ≤ (0 : Int32).toInt ∧ (0 : Int32).toInt ≤ 20000 from (rg_w (by decide : (0 : Int) ≤ (0 : Int32).toInt ∧ (0 : Int32).toInt ≤ 0) (by decide) (by decide))), lv_sub hl [0, 1, 2, 3] rfl⟩
    obtain ⟨y_251, y_252⟩ := v
    obtain ⟨b_y_251, hl⟩ := hI
    have b_y_251 : (0 : Int) ≤ y_251.toInt ∧ y_251.toInt ≤ 20000 := b_y_251
    have hl : lv_has ls 4 [(3, .int y_251), (2, .int y_252), (0, .ref o0), (1, .int a1)] := hl
    refine lv_iload_n hx hb dX10_count_90 rfl (lv_at hl 0 rfl) ?_
    refine lv_aload_n hx hb dX10_count_91 rfl (lv_at hl 2 rfl) ?_
    refine va_get (D := (dC, dI)) (ci := 8) (v := .ref mwo) (C := RX10) (T := TX10) (N := 33) hx hb hts iX10_count_X10 hown hK hP 0 rfl rfl 1 (by decide) (hts (.fieldLink RX10 9 "LuckyTicketModel" "world" "[I") (List.mem_of_getElem? (i := 1) rfl)) (fun _ h9 => h9) rfl dX10_count_92 ?_
    refine lv_iconst (v := 2) hx hb dX10_count_95 (by decide) ?_
    refine va_iald hx hb hK hP 1 0 rfl rfl (vp_in_b (by decide : (2 : Int) ≤ (2 : Int32).toInt ∧ (2 : Int32).toInt ≤ 2) (by decide) (by decide)) dX10_count_96 ?_
    refine lv_topi (fun z_358 e_z_358 => ?_)
    obtain rfl : z_358 = tk := e_z_358.trans hw2
    refine lv_icmp_ge (tgt := 123) hx hb dX10_count_97 (by decide) (fun c_359 => ?_) (fun c_359 => ?_)
    ·
      have n_c_359 : (tk.toInt : Int) ≤ y_251.toInt := c_ge rfl rfl c_359
      refine lv_iload_n hx hb dX10_count_123 rfl (lv_at hl 1 rfl) ?_
      exact W.iret (v := y_252) hx hb hr (fun t ht hW => ⟨y_252, rfl, trivial, ht⟩) t_nil dX10_count_124
    ·
      have n_c_359 : (y_251.toInt : Int) < tk.toInt := c_nge rfl rfl c_359
      have b_y_251 : (0 : Int) ≤ y_251.toInt ∧ y_251.toInt ≤ 19999 := r_lt1 b_y_251 b_tk n_c_359 (by decide)
      have b_tk : (1 : Int) ≤ tk.toInt ∧ tk.toInt ≤ 20000 := r_lt2 b_y_251 b_tk n_c_359 (by decide)
      refine lv_iload_n hx hb dX10_count_100 rfl (lv_at hl 1 rfl) ?_
      refine lv_aload_n hx hb dX10_count_101 rfl (lv_at hl 2 rfl) ?_
      refine va_get (D := (dC, dI)) (ci := 8) (v := .ref mlu) (C := RX10) (T := TX10) (N := 33) hx hb hts iX10_count_X10 hown hK hP 0 rfl rfl 4 (by decide) (hts (.fieldLink RX10 20 "LuckyTicketModel" "luck" "[I") (List.mem_of_getElem? (i := 3) rfl)) (fun _ h9 => h9) rfl dX10_count_102 ?_
      refine lv_iload_n hx hb dX10_count_105 rfl (lv_at hl 0 rfl) ?_
      refine va_iald hx hb hK hP 2 1 rfl rfl (vp_in_b b_y_251 (by decide) (by decide)) dX10_count_106 ?_
      refine lv_topi (fun z_360 e_z_360 => ?_)
      refine cutP (σ := Int32) (pc2 := 115) (st2 := fun v => [.int v, .int y_252]) (cells2 := 0) (slots2 := 0) (fun v ls => ((0 : Int) ≤ v.toInt ∧ v.toInt ≤ 1) ∧ lv_has ls 4 [(3, .int y_251), (2, .int y_252), (0, .ref o0), (1, .int a1)]) (fun v ls hI => ?_) (fun hj_115_362 => ?_)
      ·
        obtain ⟨y_362, rfl⟩ : ∃ z, z = v := ⟨_, rfl⟩
        obtain ⟨b_y_362, hl⟩ := hI
        have b_y_362 : (0 : Int) ≤ y_362.toInt ∧ y_362.toInt ≤ 1 := b_y_362
        have hl : lv_has ls 4 [(3, .int y_251), (2, .int y_252), (0, .ref o0), (1, .int a1)] := hl
        refine lv_iadd hx hb dX10_count_115 ?_
        refine lv_topi (fun z_363 e_z_363 => ?_)
        refine lv_istore_n (lv' := [(2, .int z_363), (3, .int y_251), (0, .ref o0), (1, .int a1)]) hx hb dX10_count_116 rfl hl (by decide) rfl (fun ls hl => ?_)
        obtain ⟨z_364, e_z_364⟩ : ∃ y : Int32, y = y_251 + 1 := ⟨_, rfl⟩
        refine lv_iinc (v := z_364) (lv' := [(3, .int z_364), (2, .int z_363), (0, .ref o0), (1, .int a1)]) hx hb dX10_count_117 hl (k := 1) rfl (by rw [e_z_364]; rfl) (by decide) rfl (fun ls hl => ?_)
        obtain ⟨q_z_364, b_z_364⟩ := ti_add (lo := 1) (hi := 20000) e_z_364 rfl (by decide : (1 : Int32).toInt = 1) b_y_251 (by decide : (1 : Int) ≤ (1 : Int32).toInt ∧ (1 : Int32).toInt ≤ 1) (by decide)
        refine lv_goto (tgt := 90) hx hb dX10_count_120 (by decide) ?_
        exact ih_90_357 (z_364, z_363) _ ⟨(show (0 : Int) ≤ z_364.toInt ∧ z_364.toInt ≤ 20000 from (rg_w b_z_364 (by decide) (by decide))), lv_sub hl [0, 1, 2, 3] rfl⟩ (show (20000 - z_364.toInt).toNat < (20000 - y_251.toInt).toNat by omega)
      ·
        refine lv_if_ne (tgt := 114) hx hb dX10_count_107 (by decide) (fun c_361 => ?_) (fun c_361 => ?_)
        ·
          have n_c_361 : (z_360.toInt : Int) ≠ 0 := c_ne rfl (by decide) c_361
          refine lv_iconst (v := 1) hx hb dX10_count_114 (by decide) ?_
          exact hj_115_362 (1 : Int32) _ ⟨(show (0 : Int) ≤ (1 : Int32).toInt ∧ (1 : Int32).toInt ≤ 1 from (rg_w (by decide : (1 : Int) ≤ (1 : Int32).toInt ∧ (1 : Int32).toInt ≤ 1) (by decide) (by decide))), lv_sub hl [0, 1, 2, 3] rfl⟩
        ·
          have n_c_361 : (z_360.toInt : Int) = 0 := c_eq rfl (by decide) c_361
          have b_z_360 : (0 : Int) ≤ z_360.toInt ∧ z_360.toInt ≤ 0 := r_eq1 (ti_rng z_360) (by decide : (0 : Int) ≤ (0 : Int32).toInt ∧ (0 : Int32).toInt ≤ 0) n_c_361 (by decide)
          refine lv_iconst (v := 0) hx hb dX10_count_110 (by decide) ?_
          refine lv_goto (tgt := 115) hx hb dX10_count_111 (by decide) ?_
          exact hj_115_362 (0 : Int32) _ ⟨(show (0 : Int) ≤ (0 : Int32).toInt ∧ (0 : Int32).toInt ≤ 1 from (rg_w (by decide : (0 : Int) ≤ (0 : Int32).toInt ∧ (0 : Int32).toInt ≤ 0) (by decide) (by decide))), lv_sub hl [0, 1, 2, 3] rfl⟩
  ·
    refine lv_tableIn (off := 122) (tgt := 125) hx hb dX10_count_3 (by omega) (by omega) (by rw [c_238]; rfl) (by decide) ?_
    have b_a1 : (7 : Int) ≤ a1.toInt ∧ a1.toInt ≤ 7 := ⟨by omega, by omega⟩
    refine lv_iconst (v := 0) hx hb dX10_count_125 (by decide) ?_
    refine lv_istore_n (lv' := [(3, .int 0), (2, .int 0), (0, .ref o0), (1, .int a1)]) hx hb dX10_count_126 rfl hl (by decide) rfl (fun ls hl => ?_)
    refine loopP (σ := Int32 × Int32) (fun v => (4 - v.1.toInt).toNat) (fun v ls => ((0 : Int) ≤ v.1.toInt ∧ v.1.toInt ≤ 4) ∧ lv_has ls 4 [(3, .int v.1), (2, .int v.2), (0, .ref o0), (1, .int a1)]) (fun v ls hI ih_127_468 => ?_) ((0 : Int32), (0 : Int32)) ⟨(show (0 : Int) ≤ (0 : Int32).toInt ∧ (0 : Int32).toInt ≤ 4 from (rg_w (by decide : (0 : Int) ≤ (0 : Int32).toInt ∧ (0 : Int32).toInt ≤ 0) (by decide) (by decide))), lv_sub hl [0, 1, 2, 3] rfl⟩
    obtain ⟨y_371, y_372⟩ := v
    obtain ⟨b_y_371, hl⟩ := hI
    have b_y_371 : (0 : Int) ≤ y_371.toInt ∧ y_371.toInt ≤ 4 := b_y_371
    have hl : lv_has ls 4 [(3, .int y_371), (2, .int y_372), (0, .ref o0), (1, .int a1)] := hl
    refine lv_iload_n hx hb dX10_count_127 rfl (lv_at hl 0 rfl) ?_
    refine lv_iconst (v := 4) hx hb dX10_count_128 (by decide) ?_
    refine lv_icmp_ge (tgt := 156) hx hb dX10_count_129 (by decide) (fun c_469 => ?_) (fun c_469 => ?_)
    ·
      have n_c_469 : (4 : Int) ≤ y_371.toInt := c_ge rfl (by decide) c_469
      have b_y_371 : (4 : Int) ≤ y_371.toInt ∧ y_371.toInt ≤ 4 := r_le2 (by decide : (4 : Int) ≤ (4 : Int32).toInt ∧ (4 : Int32).toInt ≤ 4) b_y_371 n_c_469 (by decide)
      refine lv_iload_n hx hb dX10_count_156 rfl (lv_at hl 1 rfl) ?_
      exact W.iret (v := y_372) hx hb hr (fun t ht hW => ⟨y_372, rfl, trivial, ht⟩) t_nil dX10_count_157
    ·
      have n_c_469 : (y_371.toInt : Int) < 4 := c_nge rfl (by decide) c_469
      have b_y_371 : (0 : Int) ≤ y_371.toInt ∧ y_371.toInt ≤ 3 := r_lt1 b_y_371 (by decide : (4 : Int) ≤ (4 : Int32).toInt ∧ (4 : Int32).toInt ≤ 4) n_c_469 (by decide)
      refine lv_iload_n hx hb dX10_count_132 rfl (lv_at hl 1 rfl) ?_
      refine lv_aload_n hx hb dX10_count_133 rfl (lv_at hl 2 rfl) ?_
      refine va_get (D := (dC, dI)) (ci := 8) (v := .ref mma) (C := RX10) (T := TX10) (N := 33) hx hb hts iX10_count_X10 hown hK hP 0 rfl rfl 29 (by decide) (hts (.fieldLink RX10 65 "LuckyTicketModel" "many" "[I") (List.mem_of_getElem? (i := 4) rfl)) (fun _ h9 => h9) rfl dX10_count_134 ?_
      refine lv_iload_n hx hb dX10_count_137 rfl (lv_at hl 0 rfl) ?_
      refine va_iald hx hb hK hP 3 2 rfl rfl (vp_in_b b_y_371 (by decide) (by decide)) dX10_count_138 ?_
      refine lv_topi (fun z_470 e_z_470 => ?_)
      have b_z_470 : (-1 : Int) ≤ z_470.toInt ∧ z_470.toInt ≤ 60 := rg_at ha_mma (vp_in_b b_y_371 (by decide) (by decide)) e_z_470
      refine lv_iconst (v := (-1)) hx hb dX10_count_139 (by decide) ?_
      refine cutP (σ := Int32) (pc2 := 148) (st2 := fun v => [.int v, .int y_372]) (cells2 := 0) (slots2 := 0) (fun v ls => ((0 : Int) ≤ v.toInt ∧ v.toInt ≤ 1) ∧ lv_has ls 4 [(3, .int y_371), (2, .int y_372), (0, .ref o0), (1, .int a1)]) (fun v ls hI => ?_) (fun hj_148_472 => ?_)
      ·
        obtain ⟨y_472, rfl⟩ : ∃ z, z = v := ⟨_, rfl⟩
        obtain ⟨b_y_472, hl⟩ := hI
        have b_y_472 : (0 : Int) ≤ y_472.toInt ∧ y_472.toInt ≤ 1 := b_y_472
        have hl : lv_has ls 4 [(3, .int y_371), (2, .int y_372), (0, .ref o0), (1, .int a1)] := hl
        refine lv_iadd hx hb dX10_count_148 ?_
        refine lv_topi (fun z_473 e_z_473 => ?_)
        refine lv_istore_n (lv' := [(2, .int z_473), (3, .int y_371), (0, .ref o0), (1, .int a1)]) hx hb dX10_count_149 rfl hl (by decide) rfl (fun ls hl => ?_)
        obtain ⟨z_474, e_z_474⟩ : ∃ y : Int32, y = y_371 + 1 := ⟨_, rfl⟩
        refine lv_iinc (v := z_474) (lv' := [(3, .int z_474), (2, .int z_473), (0, .ref o0), (1, .int a1)]) hx hb dX10_count_150 hl (k := 1) rfl (by rw [e_z_474]; rfl) (by decide) rfl (fun ls hl => ?_)
        obtain ⟨q_z_474, b_z_474⟩ := ti_add (lo := 1) (hi := 4) e_z_474 rfl (by decide : (1 : Int32).toInt = 1) b_y_371 (by decide : (1 : Int) ≤ (1 : Int32).toInt ∧ (1 : Int32).toInt ≤ 1) (by decide)
        refine lv_goto (tgt := 127) hx hb dX10_count_153 (by decide) ?_
        exact ih_127_468 (z_474, z_473) _ ⟨(show (0 : Int) ≤ z_474.toInt ∧ z_474.toInt ≤ 4 from (rg_w b_z_474 (by decide) (by decide))), lv_sub hl [0, 1, 2, 3] rfl⟩ (show (4 - z_474.toInt).toNat < (4 - y_371.toInt).toNat by omega)
      ·
        refine lv_icmp_ne (tgt := 147) hx hb dX10_count_140 (by decide) (fun c_471 => ?_) (fun c_471 => ?_)
        ·
          have n_c_471 : (z_470.toInt : Int) ≠ (-1) := c_ne rfl (by decide) c_471
          have b_z_470 : (0 : Int) ≤ z_470.toInt ∧ z_470.toInt ≤ 60 := r_ne1 b_z_470 (by decide : (-1 : Int) ≤ ((-1) : Int32).toInt ∧ ((-1) : Int32).toInt ≤ -1) n_c_471 (by decide)
          refine lv_iconst (v := 1) hx hb dX10_count_147 (by decide) ?_
          exact hj_148_472 (1 : Int32) _ ⟨(show (0 : Int) ≤ (1 : Int32).toInt ∧ (1 : Int32).toInt ≤ 1 from (rg_w (by decide : (1 : Int) ≤ (1 : Int32).toInt ∧ (1 : Int32).toInt ≤ 1) (by decide) (by decide))), lv_sub hl [0, 1, 2, 3] rfl⟩
        ·
          have n_c_471 : (z_470.toInt : Int) = (-1) := c_eq rfl (by decide) c_471
          have b_z_470 : (-1 : Int) ≤ z_470.toInt ∧ z_470.toInt ≤ -1 := r_eq1 b_z_470 (by decide : (-1 : Int) ≤ ((-1) : Int32).toInt ∧ ((-1) : Int32).toInt ≤ -1) n_c_471 (by decide)
          refine lv_iconst (v := 0) hx hb dX10_count_143 (by decide) ?_
          refine lv_goto (tgt := 148) hx hb dX10_count_144 (by decide) ?_
          exact hj_148_472 (0 : Int32) _ ⟨(show (0 : Int) ≤ (0 : Int32).toInt ∧ (0 : Int32).toInt ≤ 1 from (rg_w (by decide : (0 : Int) ≤ (0 : Int32).toInt ∧ (0 : Int32).toInt ≤ 0) (by decide) (by decide))), lv_sub hl [0, 1, 2, 3] rfl⟩
