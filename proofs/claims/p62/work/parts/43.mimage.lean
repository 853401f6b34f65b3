theorem dX10_image_0 : decode cX10_image 0 = .ok (.iload_n 1, 1) := by decide +kernel
theorem dX10_image_1 : decode cX10_image 1 = .ok (.i2l, 1) := by decide +kernel
theorem dX10_image_2 : decode cX10_image 2 = .ok (.lconst 0, 1) := by decide +kernel
theorem dX10_image_3 : decode cX10_image 3 = .ok (.ldc2_w 80, 3) := by decide +kernel
theorem dX10_image_6 : decode cX10_image 6 = .ok (.invokestatic 82, 3) := by decide +kernel
theorem dX10_image_9 : decode cX10_image 9 = .ok (.ifCond .ne 6, 3) := by decide +kernel
theorem dX10_image_12 : decode cX10_image 12 = .ok (.bipush (-2), 2) := by decide +kernel
theorem dX10_image_14 : decode cX10_image 14 = .ok (.ireturn, 1) := by decide +kernel
theorem dX10_image_15 : decode cX10_image 15 = .ok (.iconst 0, 1) := by decide +kernel
theorem dX10_image_16 : decode cX10_image 16 = .ok (.istore_n 2, 1) := by decide +kernel
theorem dX10_image_17 : decode cX10_image 17 = .ok (.iload_n 2, 1) := by decide +kernel
theorem dX10_image_18 : decode cX10_image 18 = .ok (.sipush 1875, 3) := by decide +kernel
theorem dX10_image_21 : decode cX10_image 21 = .ok (.if_icmp .ge 27, 3) := by decide +kernel
theorem dX10_image_24 : decode cX10_image 24 = .ok (.aload_n 0, 1) := by decide +kernel
theorem dX10_image_25 : decode cX10_image 25 = .ok (.getfield 13, 3) := by decide +kernel
theorem dX10_image_28 : decode cX10_image 28 = .ok (.sipush 1875, 3) := by decide +kernel
theorem dX10_image_31 : decode cX10_image 31 = .ok (.iload_n 1, 1) := by decide +kernel
theorem dX10_image_32 : decode cX10_image 32 = .ok (.imul, 1) := by decide +kernel
theorem dX10_image_33 : decode cX10_image 33 = .ok (.iload_n 2, 1) := by decide +kernel
theorem dX10_image_34 : decode cX10_image 34 = .ok (.iadd, 1) := by decide +kernel
theorem dX10_image_35 : decode cX10_image 35 = .ok (.aload_n 0, 1) := by decide +kernel
theorem dX10_image_36 : decode cX10_image 36 = .ok (.getfield 9, 3) := by decide +kernel
theorem dX10_image_39 : decode cX10_image 39 = .ok (.iload_n 2, 1) := by decide +kernel
theorem dX10_image_40 : decode cX10_image 40 = .ok (.iaload, 1) := by decide +kernel
theorem dX10_image_41 : decode cX10_image 41 = .ok (.iastore, 1) := by decide +kernel
theorem dX10_image_42 : decode cX10_image 42 = .ok (.iinc 2 1, 3) := by decide +kernel
theorem dX10_image_45 : decode cX10_image 45 = .ok (.goto (-28), 3) := by decide +kernel
theorem dX10_image_48 : decode cX10_image 48 = .ok (.aload_n 0, 1) := by decide +kernel
theorem dX10_image_49 : decode cX10_image 49 = .ok (.getfield 16, 3) := by decide +kernel
theorem dX10_image_52 : decode cX10_image 52 = .ok (.iload_n 1, 1) := by decide +kernel
theorem dX10_image_53 : decode cX10_image 53 = .ok (.iconst 1, 1) := by decide +kernel
theorem dX10_image_54 : decode cX10_image 54 = .ok (.bastore, 1) := by decide +kernel
theorem dX10_image_55 : decode cX10_image 55 = .ok (.iconst 0, 1) := by decide +kernel
theorem dX10_image_56 : decode cX10_image 56 = .ok (.ireturn, 1) := by decide +kernel
theorem hd_yX10_image : yX10_image.cls = RX10 ∧ yX10_image.cls ≠ "java/lang/invoke/MethodHandle" ∧ yX10_image.cls ≠ "java/lang/invoke/VarHandle" ∧ (parseMethodDescriptor yX10_image.desc).map (fun d => d.parameters.length) = some 1 := by decide +kernel
def uX10_image : List Cond := List.cons (.code yX10_image cX10_image 3 (some .int)) (HAppend.hAppend ([.constantLong RX10 80 (2), .methodLink RX10 82 yX10_in, .static yX10_in, .initialized RX10, .fieldLink RX10 13 "LuckyTicketModel" "images" "[I", .fieldLink RX10 9 "LuckyTicketModel" "world" "[I", .fieldLink RX10 16 "LuckyTicketModel" "hasImage" "[Z"] : List Cond) (HAppend.hAppend uX10_in wsX100))
theorem iX10_image_X10 : ∀ w ∈ wsX100, w ∈ uX10_image := fun _ h => (List.mem_cons_of_mem _ (List.mem_append_right _ (List.mem_append_right _ h)))
theorem guX10_image : GU uX10_image := gu_cons (gu_app (by decide +kernel) (gu_ap guX10_in gws_X10))
theorem gX10_image__X10_in_S82 : GoodIn uX10_image (va_wsS RX10 82 yX10_in uX10_in) := gin_S (List.mem_of_getElem? (i := 2) rfl) (List.mem_of_getElem? (i := 3) rfl) (List.mem_of_getElem? (i := 4) rfl) (fun _ h => (List.mem_cons_of_mem _ (List.mem_append_right _ (List.mem_append_left _ h)))) guX10_in
set_option maxHeartbeats 4000000 in
set_option maxRecDepth 100000 in
theorem kX10_image (l : Launch) (dC : Nat → ClassId) (dI : Nat → Nat → Nat) (o0 : Nat) (x_th : Int32) (mwo : Nat) (mim : Nat) (mhi : Nat) (mlu : Nat) (mtp : Nat) (x_td : Int32) (mfv : Nat) (x_sz : Int32) (x_at : Int32) (x_fr : Int32) (x_to : Int32) (x_va : Int32) (x_fk : Int32) (x_fp : Int32) (mfr : Nat) (mwt : Nat) (x_wt : Int32) (x_op : Int32) (x_jo : Int32) (mfg : Nat) (mpl : Nat) (x_dr : Int64) (mtm : Nat) (mfa : Nat) (mqu : Nat) (mmo : Nat) (mwy : Nat) (mwn : Nat) (mma : Nat) (mwi : Nat) (mnu : Nat) (mmv : Nat) (c_wo : ClassId) (c_im : ClassId) (c_hi : ClassId) (w_wo : Nat → Int32) (w_im : Nat → Int32) (w_hi : Nat → Int32) (a1 : Int32) (sz : Nat) (hgw : GW w_wo) (hgi : GI w_im w_hi) : Met l yX10_image uX10_image ({ frames := 1, cells := 0, slots := 0, locals := 25 }) (va_Pc [.ref o0, .int a1] (hw (dC, dI) vwCl [(o0, .inr (8, [.int x_th, .ref mwo, .ref mim, .ref mhi, .ref mlu, .ref mtp, .int x_td, .ref mfv, .int x_sz, .int x_at, .int x_fr, .int x_to, .int x_va, .int x_fk, .int x_fp, .ref mfr, .ref mwt, .int x_wt, .int x_op, .int x_jo, .ref mfg, .ref mpl, .long x_dr, .ref mtm, .ref mfa, .ref mqu, .ref mmo, .ref mwy, .ref mwn, .ref mma, .ref mwi, .ref mnu, .ref mmv])), (mwo, .inl (c_wo, 1875, .inl w_wo)), (mim, .inl (c_im, 5625, .inl w_im)), (mhi, .inl (c_hi, 3, .inl w_hi))] [(c_wo, .int), (c_im, .int), (c_hi, .boolean)] sz)) (va_Qi (fun (r : Int32) (_ : Unit) => ((-2 : Int) ≤ r.toInt ∧ r.toInt ≤ 0)) (fun (_ : Unit) t => ∃ (o0_ : Nat → Int32) (o1_ : Nat → Int32), (GI o0_ o1_) ∧ va_P (dC, dI) vwCl [(o0, .inr (8, [.int x_th, .ref mwo, .ref mim, .ref mhi, .ref mlu, .ref mtp, .int x_td, .ref mfv, .int x_sz, .int x_at, .int x_fr, .int x_to, .int x_va, .int x_fk, .int x_fp, .ref mfr, .ref mwt, .int x_wt, .int x_op, .int x_jo, .ref mfg, .ref mpl, .long x_dr, .ref mtm, .ref mfa, .ref mqu, .ref mmo, .ref mwy, .ref mwn, .ref mma, .ref mwi, .ref mnu, .ref mmv])), (mwo, .inl (c_wo, 1875, .inl w_wo)), (mim, .inl (c_im, 5625, .inl o0_)), (mhi, .inl (c_hi, 3, .inl o1_))] t.heap ∧ va_K (dC, dI) vwCl [(c_wo, .int), (c_im, .int), (c_hi, .boolean)] t ∧ va_D (va_A [(o0, .inr (8, [.int x_th, .ref mwo, .ref mim, .ref mhi, .ref mlu, .ref mtp, .int x_td, .ref mfv, .int x_sz, .int x_at, .int x_fr, .int x_to, .int x_va, .int x_fk, .int x_fp, .ref mfr, .ref mwt, .int x_wt, .int x_op, .int x_jo, .ref mfg, .ref mpl, .long x_dr, .ref mtm, .ref mfa, .ref mqu, .ref mmo, .ref mwy, .ref mwn, .ref mma, .ref mwi, .ref mnu, .ref mmv])), (mwo, .inl (c_wo, 1875, .inl w_wo)), (mim, .inl (c_im, 5625, .inl w_im)), (mhi, .inl (c_hi, 3, .inl w_hi))] sz) [(o0, .inr (8, [.int x_th, .ref mwo, .ref mim, .ref mhi, .ref mlu, .ref mtp, .int x_td, .ref mfv, .int x_sz, .int x_at, .int x_fr, .int x_to, .int x_va, .int x_fk, .int x_fp, .ref mfr, .ref mwt, .int x_wt, .int x_op, .int x_jo, .ref mfg, .ref mpl, .long x_dr, .ref mtm, .ref mfa, .ref mqu, .ref mmo, .ref mwy, .ref mwn, .ref mma, .ref mwi, .ref mnu, .ref mmv])), (mwo, .inl (c_wo, 1875, .inl w_wo)), (mim, .inl (c_im, 5625, .inl o0_)), (mhi, .inl (c_hi, 3, .inl o1_))]) (va_A [(o0, .inr (8, [.int x_th, .ref mwo, .ref mim, .ref mhi, .ref mlu, .ref mtp, .int x_td, .ref mfv, .int x_sz, .int x_at, .int x_fr, .int x_to, .int x_va, .int x_fk, .int x_fp, .ref mfr, .ref mwt, .int x_wt, .int x_op, .int x_jo, .ref mfg, .ref mpl, .long x_dr, .ref mtm, .ref mfa, .ref mqu, .ref mmo, .ref mwy, .ref mwn, .ref mma, .ref mwi, .ref mnu, .ref mmv])), (mwo, .inl (c_wo, 1875, .inl w_wo)), (mim, .inl (c_im, 5625, .inl w_im)), (mhi, .inl (c_hi, 3, .inl w_hi))] sz)) 0 0 (va_A [(o0, .inr (8, [.int x_th, .ref mwo, .ref mim, .ref mhi, .ref mlu, .ref mtp, .int x_td, .ref mfv, .int x_sz, .int x_at, .int x_fr, .int x_to, .int x_va, .int x_fk, .int x_fp, .ref mfr, .ref mwt, .int x_wt, .int x_op, .int x_jo, .ref mfg, .ref mpl, .long x_dr, .ref mtm, .ref mfa, .ref mqu, .ref mmo, .ref mwy, .ref mwn, .ref mma, .ref mwi, .ref mnu, .ref mmv])), (mwo, .inl (c_wo, 1875, .inl w_wo)), (mim, .inl (c_im, 5625, .inl w_im)), (mhi, .inl (c_hi, 3, .inl w_hi))] sz) := by
  refine Met.ofW (cc := cX10_image) (maxL := 3) (ret := (some .int)) pn_X10 rfl ?_
  intro p e s m args below meth c s₁ B hml hv
  obtain ⟨rfl, hsz, hP, hK, hD0, hN⟩ := hv
  have hx := B.exec
  have hb := B.bytes
  have hr := B.returns
  have hts := atoms_spec (ws := uX10_image) B.pre
  have hown : s.vm.findClass RX10 = some m.cls := hown_of B.named rfl
  have hlocks := B.notSynchronized
  subst hsz
  have hD := hD0.self (sz := s.heap.size)
  generalize hAe : va_A [(o0, .inr (8, [.int x_th, .ref mwo, .ref mim, .ref mhi, .ref mlu, .ref mtp, .int x_td, .ref mfv, .int x_sz, .int x_at, .int x_fr, .int x_to, .int x_va, .int x_fk, .int x_fp, .ref mfr, .ref mwt, .int x_wt, .int x_op, .int x_jo, .ref mfg, .ref mpl, .long x_dr, .ref mtm, .ref mfa, .ref mqu, .ref mmo, .ref mwy, .ref mwn, .ref mma, .ref mwi, .ref mnu, .ref mmv])), (mwo, .inl (c_wo, 1875, .inl w_wo)), (mim, .inl (c_im, 5625, .inl w_im)), (mhi, .inl (c_hi, 3, .inl w_hi))] s.heap.size = A at hD ⊢
  have hA : ∀ q : Nat, s.heap.size ≤ q → A q := fun q h => by rw [← hAe]; exact Or.inr h
  have hS : va_S A s.heap s.heap [] := va_S.rf
  have hP : va_P (dC, dI) vwCl [(o0, .inr (8, [.int x_th, .ref mwo, .ref mim, .ref mhi, .ref mlu, .ref mtp, .int x_td, .ref mfv, .int x_sz, .int x_at, .int x_fr, .int x_to, .int x_va, .int x_fk, .int x_fp, .ref mfr, .ref mwt, .int x_wt, .int x_op, .int x_jo, .ref mfg, .ref mpl, .long x_dr, .ref mtm, .ref mfa, .ref mqu, .ref mmo, .ref mwy, .ref mwn, .ref mma, .ref mwi, .ref mnu, .ref mmv])), (mwo, .inl (c_wo, 1875, .inl w_wo)), (mim, .inl (c_im, 5625, .inl w_im)), (mhi, .inl (c_hi, 3, .inl w_hi))] s.heap := hP
  have hl := lv_entry ([.ref o0, .int a1]) (n := 3) (Nat.le_of_ble_eq_true rfl)
  rw [lg_entry_eq]
  generalize (lg_sl ([.ref o0, .int a1]) ++ List.replicate (3 - (lg_sl ([.ref o0, .int a1])).length) Slot.unset).toArray = ls at hl ⊢
  have hl : lv_has ls 3 [(0, .ref o0), (1, .int a1)] := hl
  refine lv_iload_n hx hb dX10_image_0 rfl (lv_at hl 1 rfl) ?_
  obtain ⟨z_85, e_z_85⟩ : ∃ y : Int64, y = a1.toInt64 := ⟨_, rfl⟩
  refine lv_i2l (v := z_85) hx hb dX10_image_1 e_z_85.symm ?_
  obtain ⟨q_z_85, b_z_85⟩ := ti_i2l e_z_85 (ti_rng a1)
  refine lv_lconst (v := 0) hx hb dX10_image_2 (by decide) ?_
  refine lv_ldc2 (v := 2) hx hb hown (hts (.constantLong RX10 80 (2)) (List.mem_of_getElem? (i := 1) rfl)) dX10_image_3 ?_
  refine vp_callSi (W.runS (As := [.long z_85, .long 0, .long 2]) (rest := []) ⟨hx, hb, hml, hown, hts⟩ (kX10_in l dC dI z_85 0 2 ) (va_cwS 3 hts gX10_image__X10_in_S82 rfl rfl rfl hd_yX10_in.2 ⟨lel 1 1 rfl, lel 25 25 rfl⟩) ⟨pn_fb, pn_use⟩ rfl rfl hl.1 rfl (lv_room (Nat.le_of_ble_eq_true rfl)) dX10_image_6 ⟨lel 0 0 rfl, lel 0 0 rfl⟩) (fun r_86 h_r_86 => ?_)
  obtain ⟨b_r_86, nz_r_86⟩ := h_r_86
  have b_r_86 : (0 : Int) ≤ r_86.toInt ∧ r_86.toInt ≤ 1 := b_r_86
  refine lv_if_ne (tgt := 15) hx hb dX10_image_9 (by decide) (fun c_87 => ?_) (fun c_87 => ?_)
  ·
    have n_c_87 : (r_86.toInt : Int) ≠ 0 := c_ne rfl (by decide) c_87
    have b_r_86 : (1 : Int) ≤ r_86.toInt ∧ r_86.toInt ≤ 1 := r_ne1 b_r_86 (by decide : (0 : Int) ≤ (0 : Int32).toInt ∧ (0 : Int32).toInt ≤ 0) n_c_87 (by decide)
    have g_88 := nz_r_86 c_87
    have lt0_g_88 := (by decide : (0 : Int64).toInt = 0)
    have lt1_g_88 := (by decide : (2 : Int64).toInt = 2)
    have b_z_85 : (0 : Int) ≤ z_85.toInt ∧ z_85.toInt ≤ 2 := by
      have q0 := b_z_85
      have q1 := (by decide : (0 : Int) ≤ (0 : Int64).toInt ∧ (0 : Int64).toInt ≤ 0)
      have q2 := (by decide : (2 : Int) ≤ (2 : Int64).toInt ∧ (2 : Int64).toInt ≤ 2)
      omega
    have b_a1 : (0 : Int) ≤ a1.toInt ∧ a1.toInt ≤ 2 := by
      have q0 := b_z_85; have q1 := q_z_85; have q2 := (ti_rng a1); omega
    refine lv_iconst (v := 0) hx hb dX10_image_15 (by decide) ?_
    refine lv_istore_n (lv' := [(2, .int 0), (0, .ref o0), (1, .int a1)]) hx hb dX10_image_16 rfl hl (by decide) rfl (fun ls hl => ?_)
    refine loopW (σ := Int32 × (Nat → Int32)) (fun v => (1875 - v.1.toInt).toNat) (fun v H locs ls => ((0 : Int) ≤ v.1.toInt ∧ v.1.toInt ≤ 1875) ∧ (∀ j : Nat, j < v.1.toInt.toNat → v.2 (1875 * a1.toInt.toNat + j) = w_wo j) ∧ (∀ q : Nat, (q < 1875 * a1.toInt.toNat ∨ 1875 * a1.toInt.toNat + 1875 ≤ q) → v.2 q = w_im q) ∧ va_P (dC, dI) vwCl [(o0, .inr (8, [.int x_th, .ref mwo, .ref mim, .ref mhi, .ref mlu, .ref mtp, .int x_td, .ref mfv, .int x_sz, .int x_at, .int x_fr, .int x_to, .int x_va, .int x_fk, .int x_fp, .ref mfr, .ref mwt, .int x_wt, .int x_op, .int x_jo, .ref mfg, .ref mpl, .long x_dr, .ref mtm, .ref mfa, .ref mqu, .ref mmo, .ref mwy, .ref mwn, .ref mma, .ref mwi, .ref mnu, .ref mmv])), (mwo, .inl (c_wo, 1875, .inl w_wo)), (mim, .inl (c_im, 5625, .inl v.2)), (mhi, .inl (c_hi, 3, .inl w_hi))] H ∧ va_D A [(o0, .inr (8, [.int x_th, .ref mwo, .ref mim, .ref mhi, .ref mlu, .ref mtp, .int x_td, .ref mfv, .int x_sz, .int x_at, .int x_fr, .int x_to, .int x_va, .int x_fk, .int x_fp, .ref mfr, .ref mwt, .int x_wt, .int x_op, .int x_jo, .ref mfg, .ref mpl, .long x_dr, .ref mtm, .ref mfa, .ref mqu, .ref mmo, .ref mwy, .ref mwn, .ref mma, .ref mwi, .ref mnu, .ref mmv])), (mwo, .inl (c_wo, 1875, .inl w_wo)), (mim, .inl (c_im, 5625, .inl v.2)), (mhi, .inl (c_hi, 3, .inl w_hi))] ∧ va_S A s.heap H locs ∧ lv_has ls 3 [(2, .int v.1), (0, .ref o0), (1, .int a1)]) (fun v H locs ls hI ih_17_156 => ?_) ((0 : Int32), w_im) ⟨(show (0 : Int) ≤ (0 : Int32).toInt ∧ (0 : Int32).toInt ≤ 1875 from (rg_w (by decide : (0 : Int) ≤ (0 : Int32).toInt ∧ (0 : Int32).toInt ≤ 0) (by decide) (by decide))), (show ∀ j : Nat, j < (0 : Int32).toInt.toNat → w_im (1875 * a1.toInt.toNat + j) = w_wo j from (nil_lt)), (show ∀ q : Nat, (q < 1875 * a1.toInt.toNat ∨ 1875 * a1.toInt.toNat + 1875 ≤ q) → w_im q = w_im q from (fun _ _ => rfl)), hP, hD, hS, lv_sub hl [0, 1, 2] rfl⟩
    obtain ⟨y_95, f_96⟩ := v
    obtain ⟨b_y_95, hcp, huc, hP, hD, hS, hl⟩ := hI
    have b_y_95 : (0 : Int) ≤ y_95.toInt ∧ y_95.toInt ≤ 1875 := b_y_95
    have hcp : ∀ j : Nat, j < y_95.toInt.toNat → f_96 (1875 * a1.toInt.toNat + j) = w_wo j := hcp
    have huc : ∀ q : Nat, (q < 1875 * a1.toInt.toNat ∨ 1875 * a1.toInt.toNat + 1875 ≤ q) → f_96 q = w_im q := huc
    have hP : va_P (dC, dI) vwCl [(o0, .inr (8, [.int x_th, .ref mwo, .ref mim, .ref mhi, .ref mlu, .ref mtp, .int x_td, .ref mfv, .int x_sz, .int x_at, .int x_fr, .int x_to, .int x_va, .int x_fk, .int x_fp, .ref mfr, .ref mwt, .int x_wt, .int x_op, .int x_jo, .ref mfg, .ref mpl, .long x_dr, .ref mtm, .ref mfa, .ref mqu, .ref mmo, .ref mwy, .ref mwn, .ref mma, .ref mwi, .ref mnu, .ref mmv])), (mwo, .inl (c_wo, 1875, .inl w_wo)), (mim, .inl (c_im, 5625, .inl f_96)), (mhi, .inl (c_hi, 3, .inl w_hi))] H := hP
    have hD : va_D A [(o0, .inr (8, [.int x_th, .ref mwo, .ref mim, .ref mhi, .ref mlu, .ref mtp, .int x_td, .ref mfv, .int x_sz, .int x_at, .int x_fr, .int x_to, .int x_va, .int x_fk, .int x_fp, .ref mfr, .ref mwt, .int x_wt, .int x_op, .int x_jo, .ref mfg, .ref mpl, .long x_dr, .ref mtm, .ref mfa, .ref mqu, .ref mmo, .ref mwy, .ref mwn, .ref mma, .ref mwi, .ref mnu, .ref mmv])), (mwo, .inl (c_wo, 1875, .inl w_wo)), (mim, .inl (c_im, 5625, .inl f_96)), (mhi, .inl (c_hi, 3, .inl w_hi))] := hD
    have hl : lv_has ls 3 [(2, .int y_95), (0, .ref o0), (1, .int a1)] := hl
    refine lv_iload_n hx hb dX10_image_17 rfl (lv_at hl 0 rfl) ?_
    refine lv_sipush (v := 1875) hx hb dX10_image_18 (by decide) ?_
    refine lv_icmp_ge (tgt := 48) hx hb dX10_image_21 (by decide) (fun c_157 => ?_) (fun c_157 => ?_)
    ·
      have n_c_157 : (1875 : Int) ≤ y_95.toInt := c_ge rfl (by decide) c_157
      have b_y_95 : (1875 : Int) ≤ y_95.toInt ∧ y_95.toInt ≤ 1875 := r_le2 (by decide : (1875 : Int) ≤ (1875 : Int32).toInt ∧ (1875 : Int32).toInt ≤ 1875) b_y_95 n_c_157 (by decide)
      refine lv_aload_n hx hb dX10_image_48 rfl (lv_at hl 1 rfl) ?_
      refine va_get (D := (dC, dI)) (ci := 8) (v := .ref mhi) (C := RX10) (T := TX10) (N := 33) hx hb hts iX10_image_X10 hown hK hP 0 rfl rfl 3 (by decide) (hts (.fieldLink RX10 16 "LuckyTicketModel" "hasImage" "[Z") (List.mem_of_getElem? (i := 7) rfl)) (fun _ h9 => h9) rfl dX10_image_49 ?_
      refine lv_iload_n hx hb dX10_image_52 rfl (lv_at hl 2 rfl) ?_
      refine lv_iconst (v := 1) hx hb dX10_image_53 (by decide) ?_
      refine va_zast hx hb hK hP hD hS 3 2 rfl rfl (vp_in_b b_a1 (by decide) (by decide)) dX10_image_54 (fun H locs hP hD hS => ?_)
      have hP : va_P (dC, dI) vwCl [(o0, .inr (8, [.int x_th, .ref mwo, .ref mim, .ref mhi, .ref mlu, .ref mtp, .int x_td, .ref mfv, .int x_sz, .int x_at, .int x_fr, .int x_to, .int x_va, .int x_fk, .int x_fp, .ref mfr, .ref mwt, .int x_wt, .int x_op, .int x_jo, .ref mfg, .ref mpl, .long x_dr, .ref mtm, .ref mfa, .ref mqu, .ref mmo, .ref mwy, .ref mwn, .ref mma, .ref mwi, .ref mnu, .ref mmv])), (mwo, .inl (c_wo, 1875, .inl w_wo)), (mim, .inl (c_im, 5625, .inl f_96)), (mhi, .inl (c_hi, 3, .inl (upd w_hi (a1 : Int32).toNatClampNeg (vp_nar .boolean 1))))] H := hP
      have hD : va_D A [(o0, .inr (8, [.int x_th, .ref mwo, .ref mim, .ref mhi, .ref mlu, .ref mtp, .int x_td, .ref mfv, .int x_sz, .int x_at, .int x_fr, .int x_to, .int x_va, .int x_fk, .int x_fp, .ref mfr, .ref mwt, .int x_wt, .int x_op, .int x_jo, .ref mfg, .ref mpl, .long x_dr, .ref mtm, .ref mfa, .ref mqu, .ref mmo, .ref mwy, .ref mwn, .ref mma, .ref mwi, .ref mnu, .ref mmv])), (mwo, .inl (c_wo, 1875, .inl w_wo)), (mim, .inl (c_im, 5625, .inl f_96)), (mhi, .inl (c_hi, 3, .inl (upd w_hi (a1 : Int32).toNatClampNeg (vp_nar .boolean 1))))] := hD
      generalize ef_f_163 : (upd w_hi (a1 : Int32).toNatClampNeg (vp_nar .boolean 1)) = f_163 at hP hD
      have hP : va_P (dC, dI) vwCl [(o0, .inr (8, [.int x_th, .ref mwo, .ref mim, .ref mhi, .ref mlu, .ref mtp, .int x_td, .ref mfv, .int x_sz, .int x_at, .int x_fr, .int x_to, .int x_va, .int x_fk, .int x_fp, .ref mfr, .ref mwt, .int x_wt, .int x_op, .int x_jo, .ref mfg, .ref mpl, .long x_dr, .ref mtm, .ref mfa, .ref mqu, .ref mmo, .ref mwy, .ref mwn, .ref mma, .ref mwi, .ref mnu, .ref mmv])), (mwo, .inl (c_wo, 1875, .inl w_wo)), (mim, .inl (c_im, 5625, .inl f_96)), (mhi, .inl (c_hi, 3, .inl f_163))] H := hP
      have hD : va_D A [(o0, .inr (8, [.int x_th, .ref mwo, .ref mim, .ref mhi, .ref mlu, .ref mtp, .int x_td, .ref mfv, .int x_sz, .int x_at, .int x_fr, .int x_to, .int x_va, .int x_fk, .int x_fp, .ref mfr, .ref mwt, .int x_wt, .int x_op, .int x_jo, .ref mfg, .ref mpl, .long x_dr, .ref mtm, .ref mfa, .ref mqu, .ref mmo, .ref mwy, .ref mwn, .ref mma, .ref mwi, .ref mnu, .ref mmv])), (mwo, .inl (c_wo, 1875, .inl w_wo)), (mim, .inl (c_im, 5625, .inl f_96)), (mhi, .inl (c_hi, 3, .inl f_163))] := hD
      refine lv_iconst (v := 0) hx hb dX10_image_55 (by decide) ?_
      have hP9 := hP.sub (ws' := [(o0, .inr (8, [.int x_th, .ref mwo, .ref mim, .ref mhi, .ref mlu, .ref mtp, .int x_td, .ref mfv, .int x_sz, .int x_at, .int x_fr, .int x_to, .int x_va, .int x_fk, .int x_fp, .ref mfr, .ref mwt, .int x_wt, .int x_op, .int x_jo, .ref mfg, .ref mpl, .long x_dr, .ref mtm, .ref mfa, .ref mqu, .ref mmo, .ref mwy, .ref mwn, .ref mma, .ref mwi, .ref mnu, .ref mmv])), (mwo, .inl (c_wo, 1875, .inl w_wo)), (mim, .inl (c_im, 5625, .inl f_96)), (mhi, .inl (c_hi, 3, .inl f_163))]) [0, 1, 2, 3] rfl
      have hD9 := hD.sub (ws' := [(o0, .inr (8, [.int x_th, .ref mwo, .ref mim, .ref mhi, .ref mlu, .ref mtp, .int x_td, .ref mfv, .int x_sz, .int x_at, .int x_fr, .int x_to, .int x_va, .int x_fk, .int x_fp, .ref mfr, .ref mwt, .int x_wt, .int x_op, .int x_jo, .ref mfg, .ref mpl, .long x_dr, .ref mtm, .ref mfa, .ref mqu, .ref mmo, .ref mwy, .ref mwn, .ref mma, .ref mwi, .ref mnu, .ref mmv])), (mwo, .inl (c_wo, 1875, .inl w_wo)), (mim, .inl (c_im, 5625, .inl f_96)), (mhi, .inl (c_hi, 3, .inl f_163))]) [0, 1, 2, 3] (by decide) rfl
      have hK9 := hK.sub (tys' := [(c_wo, .int), (c_im, .int), (c_hi, .boolean)]) [0, 1, 2] rfl
      exact W.iret (v := 0) hx hb hr (fun t ht hW => ⟨⟨0, (), rfl, (rg_w (by decide : (0 : Int) ≤ (0 : Int32).toInt ∧ (0 : Int32).toInt ≤ 0) (by decide) (by decide)), f_96, f_163, (gi_set hgi hgw (by omega) (fun j hj => hcp j (by omega)) huc ef_f_163), by rw [ht]; exact hP9, va_K.moved hW.alike hK9, hD9⟩, hS.F ht⟩) hS.2.2 dX10_image_56
    ·
      have n_c_157 : (y_95.toInt : Int) < 1875 := c_nge rfl (by decide) c_157
      have b_y_95 : (0 : Int) ≤ y_95.toInt ∧ y_95.toInt ≤ 1874 := r_lt1 b_y_95 (by decide : (1875 : Int) ≤ (1875 : Int32).toInt ∧ (1875 : Int32).toInt ≤ 1875) n_c_157 (by decide)
      refine lv_aload_n hx hb dX10_image_24 rfl (lv_at hl 1 rfl) ?_
      refine va_get (D := (dC, dI)) (ci := 8) (v := .ref mim) (C := RX10) (T := TX10) (N := 33) hx hb hts iX10_image_X10 hown hK hP 0 rfl rfl 2 (by decide) (hts (.fieldLink RX10 13 "LuckyTicketModel" "images" "[I") (List.mem_of_getElem? (i := 5) rfl)) (fun _ h9 => h9) rfl dX10_image_25 ?_
      refine lv_sipush (v := 1875) hx hb dX10_image_28 (by decide) ?_
      refine lv_iload_n hx hb dX10_image_31 rfl (lv_at hl 2 rfl) ?_
      refine lv_imul hx hb dX10_image_32 ?_
      refine lv_topi (fun z_164 e_z_164 => ?_)
      obtain ⟨q_z_164, b_z_164⟩ := ti_mul (lo := 0) (hi := 3750) e_z_164 (by decide : (1875 : Int32).toInt = 1875) rfl (by decide : (1875 : Int) ≤ (1875 : Int32).toInt ∧ (1875 : Int32).toInt ≤ 1875) b_a1 (by decide)
      refine lv_iload_n hx hb dX10_image_33 rfl (lv_at hl 0 rfl) ?_
      refine lv_iadd hx hb dX10_image_34 ?_
      refine lv_topi (fun z_165 e_z_165 => ?_)
      obtain ⟨q_z_165, b_z_165⟩ := ti_add (lo := 0) (hi := 5624) e_z_165 rfl rfl b_z_164 b_y_95 (by decide)
      refine lv_aload_n hx hb dX10_image_35 rfl (lv_at hl 1 rfl) ?_
      refine va_get (D := (dC, dI)) (ci := 8) (v := .ref mwo) (C := RX10) (T := TX10) (N := 33) hx hb hts iX10_image_X10 hown hK hP 0 rfl rfl 1 (by decide) (hts (.fieldLink RX10 9 "LuckyTicketModel" "world" "[I") (List.mem_of_getElem? (i := 6) rfl)) (fun _ h9 => h9) rfl dX10_image_36 ?_
      refine lv_iload_n hx hb dX10_image_39 rfl (lv_at hl 0 rfl) ?_
      refine va_iald hx hb hK hP 1 0 rfl rfl (vp_in_b b_y_95 (by decide) (by decide)) dX10_image_40 ?_
      refine lv_topi (fun z_166 e_z_166 => ?_)
      refine va_iast hx hb hK hP hD hS 2 1 rfl rfl (vp_in_b b_z_165 (by decide) (by decide)) dX10_image_41 (fun H locs hP hD hS => ?_)
      have hP : va_P (dC, dI) vwCl [(o0, .inr (8, [.int x_th, .ref mwo, .ref mim, .ref mhi, .ref mlu, .ref mtp, .int x_td, .ref mfv, .int x_sz, .int x_at, .int x_fr, .int x_to, .int x_va, .int x_fk, .int x_fp, .ref mfr, .ref mwt, .int x_wt, .int x_op, .int x_jo, .ref mfg, .ref mpl, .long x_dr, .ref mtm, .ref mfa, .ref mqu, .ref mmo, .ref mwy, .ref mwn, .ref mma, .ref mwi, .ref mnu, .ref mmv])), (mwo, .inl (c_wo, 1875, .inl w_wo)), (mim, .inl (c_im, 5625, .inl (upd f_96 (z_165 : Int32).toNatClampNeg z_166))), (mhi, .inl (c_hi, 3, .inl w_hi))] H := hP
      have hD : va_D A [(o0, .inr (8, [.int x_th, .ref mwo, .ref mim, .ref mhi, .ref mlu, .ref mtp, .int x_td, .ref mfv, .int x_sz, .int x_at, .int x_fr, .int x_to, .int x_va, .int x_fk, .int x_fp, .ref mfr, .ref mwt, .int x_wt, .int x_op, .int x_jo, .ref mfg, .ref mpl, .long x_dr, .ref mtm, .ref mfa, .ref mqu, .ref mmo, .ref mwy, .ref mwn, .ref mma, .ref mwi, .ref mnu, .ref mmv])), (mwo, .inl (c_wo, 1875, .inl w_wo)), (mim, .inl (c_im, 5625, .inl (upd f_96 (z_165 : Int32).toNatClampNeg z_166))), (mhi, .inl (c_hi, 3, .inl w_hi))] := hD
      generalize ef_f_167 : (upd f_96 (z_165 : Int32).toNatClampNeg z_166) = f_167 at hP hD
      have hP : va_P (dC, dI) vwCl [(o0, .inr (8, [.int x_th, .ref mwo, .ref mim, .ref mhi, .ref mlu, .ref mtp, .int x_td, .ref mfv, .int x_sz, .int x_at, .int x_fr, .int x_to, .int x_va, .int x_fk, .int x_fp, .ref mfr, .ref mwt, .int x_wt, .int x_op, .int x_jo, .ref mfg, .ref mpl, .long x_dr, .ref mtm, .ref mfa, .ref mqu, .ref mmo, .ref mwy, .ref mwn, .ref mma, .ref mwi, .ref mnu, .ref mmv])), (mwo, .inl (c_wo, 1875, .inl w_wo)), (mim, .inl (c_im, 5625, .inl f_167)), (mhi, .inl (c_hi, 3, .inl w_hi))] H := hP
      have hD : va_D A [(o0, .inr (8, [.int x_th, .ref mwo, .ref mim, .ref mhi, .ref mlu, .ref mtp, .int x_td, .ref mfv, .int x_sz, .int x_at, .int x_fr, .int x_to, .int x_va, .int x_fk, .int x_fp, .ref mfr, .ref mwt, .int x_wt, .int x_op, .int x_jo, .ref mfg, .ref mpl, .long x_dr, .ref mtm, .ref mfa, .ref mqu, .ref mmo, .ref mwy, .ref mwn, .ref mma, .ref mwi, .ref mnu, .ref mmv])), (mwo, .inl (c_wo, 1875, .inl w_wo)), (mim, .inl (c_im, 5625, .inl f_167)), (mhi, .inl (c_hi, 3, .inl w_hi))] := hD
      obtain ⟨z_168, e_z_168⟩ : ∃ y : Int32, y = y_95 + 1 := ⟨_, rfl⟩
      refine lv_iinc (v := z_168) (lv' := [(2, .int z_168), (0, .ref o0), (1, .int a1)]) hx hb dX10_image_42 hl (k := 0) rfl (by rw [e_z_168]; rfl) (by decide) rfl (fun ls hl => ?_)
      obtain ⟨q_z_168, b_z_168⟩ := ti_add (lo := 1) (hi := 1875) e_z_168 rfl (by decide : (1 : Int32).toInt = 1) b_y_95 (by decide : (1 : Int) ≤ (1 : Int32).toInt ∧ (1 : Int32).toInt ≤ 1) (by decide)
      refine lv_goto (tgt := 17) hx hb dX10_image_45 (by decide) ?_
      exact ih_17_156 (z_168, f_167) _ _ _ ⟨(show (0 : Int) ≤ z_168.toInt ∧ z_168.toInt ≤ 1875 from (rg_w b_z_168 (by decide) (by decide))), (show ∀ j : Nat, j < z_168.toInt.toNat → f_167 (1875 * a1.toInt.toNat + j) = w_wo j from (im_1 hcp (by omega) (by omega) q_z_168 (by omega) e_z_166 ef_f_167)), (show ∀ q : Nat, (q < 1875 * a1.toInt.toNat ∨ 1875 * a1.toInt.toNat + 1875 ≤ q) → f_167 q = w_im q from (im_2 huc (by omega) (by omega) (by omega) (show z_165.toInt = 1875 * a1.toInt + y_95.toInt from by omega) ef_f_167)), hP, hD, hS, lv_sub hl [0, 1, 2] rfl⟩ (show (1875 - z_168.toInt).toNat < (1875 - y_95.toInt).toNat by omega)
  ·
    have n_c_87 : (r_86.toInt : Int) = 0 := c_eq rfl (by decide) c_87
    have b_r_86 : (0 : Int) ≤ r_86.toInt ∧ r_86.toInt ≤ 0 := r_eq1 b_r_86 (by decide : (0 : Int) ≤ (0 : Int32).toInt ∧ (0 : Int32).toInt ≤ 0) n_c_87 (by decide)
    refine lv_bipush (v := (-2)) hx hb dX10_image_12 (by decide) ?_
    have hP9 := hP.sub (ws' := [(o0, .inr (8, [.int x_th, .ref mwo, .ref mim, .ref mhi, .ref mlu, .ref mtp, .int x_td, .ref mfv, .int x_sz, .int x_at, .int x_fr, .int x_to, .int x_va, .int x_fk, .int x_fp, .ref mfr, .ref mwt, .int x_wt, .int x_op, .int x_jo, .ref mfg, .ref mpl, .long x_dr, .ref mtm, .ref mfa, .ref mqu, .ref mmo, .ref mwy, .ref mwn, .ref mma, .ref mwi, .ref mnu, .ref mmv])), (mwo, .inl (c_wo, 1875, .inl w_wo)), (mim, .inl (c_im, 5625, .inl w_im)), (mhi, .inl (c_hi, 3, .inl w_hi))]) [0, 1, 2, 3] rfl
    have hD9 := hD.sub (ws' := [(o0, .inr (8, [.int x_th, .ref mwo, .ref mim, .ref mhi, .ref mlu, .ref mtp, .int x_td, .ref mfv, .int x_sz, .int x_at, .int x_fr, .int x_to, .int x_va, .int x_fk, .int x_fp, .ref mfr, .ref mwt, .int x_wt, .int x_op, .int x_jo, .ref mfg, .ref mpl, .long x_dr, .ref mtm, .ref mfa, .ref mqu, .ref mmo, .ref mwy, .ref mwn, .ref mma, .ref mwi, .ref mnu, .ref mmv])), (mwo, .inl (c_wo, 1875, .inl w_wo)), (mim, .inl (c_im, 5625, .inl w_im)), (mhi, .inl (c_hi, 3, .inl w_hi))]) [0, 1, 2, 3] (by decide) rfl
    have hK9 := hK.sub (tys' := [(c_wo, .int), (c_im, .int), (c_hi, .boolean)]) [0, 1, 2] rfl
    exact W.iret (v := (-2)) hx hb hr (fun t ht hW => ⟨⟨(-2), (), rfl, (rg_w (by decide : (-2 : Int) ≤ ((-2) : Int32).toInt ∧ ((-2) : Int32).toInt ≤ -2) (by decide) (by decide)), w_im, w_hi, (hgi), by rw [ht]; exact hP9, va_K.moved hW.alike hK9, hD9⟩, hS.F ht⟩) hS.2.2 dX10_image_14
theorem dX10_back_0 : decode cX10_back 0 = .ok (.iload_n 1, 1) := by decide +kernel
theorem dX10_back_1 : decode cX10_back 1 = .ok (.i2l, 1) := by decide +kernel
theorem dX10_back_2 : decode cX10_back 2 = .ok (.lconst 0, 1) := by decide +kernel
theorem dX10_back_3 : decode cX10_back 3 = .ok (.ldc2_w 80, 3) := by decide +kernel
theorem dX10_back_6 : decode cX10_back 6 = .ok (.invokestatic 82, 3) := by decide +kernel
theorem dX10_back_9 : decode cX10_back 9 = .ok (.ifCond .ne 6, 3) := by decide +kernel
theorem dX10_back_12 : decode cX10_back 12 = .ok (.bipush (-2), 2) := by decide +kernel
theorem dX10_back_14 : decode cX10_back 14 = .ok (.ireturn, 1) := by decide +kernel
theorem dX10_back_15 : decode cX10_back 15 = .ok (.aload_n 0, 1) := by decide +kernel
theorem dX10_back_16 : decode cX10_back 16 = .ok (.getfield 16, 3) := by decide +kernel
theorem dX10_back_19 : decode cX10_back 19 = .ok (.iload_n 1, 1) := by decide +kernel
theorem dX10_back_20 : decode cX10_back 20 = .ok (.baload, 1) := by decide +kernel
theorem dX10_back_21 : decode cX10_back 21 = .ok (.ifCond .ne 6, 3) := by decide +kernel
theorem dX10_back_24 : decode cX10_back 24 = .ok (.bipush (-6), 2) := by decide +kernel
theorem dX10_back_26 : decode cX10_back 26 = .ok (.ireturn, 1) := by decide +kernel
theorem dX10_back_27 : decode cX10_back 27 = .ok (.iconst 0, 1) := by decide +kernel
theorem dX10_back_28 : decode cX10_back 28 = .ok (.istore_n 2, 1) := by decide +kernel
theorem dX10_back_29 : decode cX10_back 29 = .ok (.iload_n 2, 1) := by decide +kernel
theorem dX10_back_30 : decode cX10_back 30 = .ok (.sipush 1875, 3) := by decide +kernel
theorem dX10_back_33 : decode cX10_back 33 = .ok (.if_icmp .ge 27, 3) := by decide +kernel
theorem dX10_back_36 : decode cX10_back 36 = .ok (.aload_n 0, 1) := by decide +kernel
theorem dX10_back_37 : decode cX10_back 37 = .ok (.getfield 9, 3) := by decide +kernel
theorem dX10_back_40 : decode cX10_back 40 = .ok (.iload_n 2, 1) := by decide +kernel
theorem dX10_back_41 : decode cX10_back 41 = .ok (.aload_n 0, 1) := by decide +kernel
theorem dX10_back_42 : decode cX10_back 42 = .ok (.getfield 13, 3) := by decide +kernel
theorem dX10_back_45 : decode cX10_back 45 = .ok (.sipush 1875, 3) := by decide +kernel
theorem dX10_back_48 : decode cX10_back 48 = .ok (.iload_n 1, 1) := by decide +kernel
theorem dX10_back_49 : decode cX10_back 49 = .ok (.imul, 1) := by decide +kernel
theorem dX10_back_50 : decode cX10_back 50 = .ok (.iload_n 2, 1) := by decide +kernel
theorem dX10_back_51 : decode cX10_back 51 = .ok (.iadd, 1) := by decide +kernel
theorem dX10_back_52 : decode cX10_back 52 = .ok (.iaload, 1) := by decide +kernel
theorem dX10_back_53 : decode cX10_back 53 = .ok (.iastore, 1) := by decide +kernel
theorem dX10_back_54 : decode cX10_back 54 = .ok (.iinc 2 1, 3) := by decide +kernel
theorem dX10_back_57 : decode cX10_back 57 = .ok (.goto (-28), 3) := by decide +kernel
theorem dX10_back_60 : decode cX10_back 60 = .ok (.aload_n 0, 1) := by decide +kernel
theorem dX10_back_61 : decode cX10_back 61 = .ok (.invokevirtual 86, 3) := by decide +kernel
theorem dX10_back_64 : decode cX10_back 64 = .ok (.iconst 0, 1) := by decide +kernel
theorem dX10_back_65 : decode cX10_back 65 = .ok (.ireturn, 1) := by decide +kernel
theorem hd_yX10_back : yX10_back.cls = RX10 ∧ yX10_back.cls ≠ "java/lang/invoke/MethodHandle" ∧ yX10_back.cls ≠ "java/lang/invoke/VarHandle" ∧ (parseMethodDescriptor yX10_back.desc).map (fun d => d.parameters.length) = some 1 := by decide +kernel
def uX10_back : List Cond := List.cons (.code yX10_back cX10_back 3 (some .int)) (HAppend.hAppend ([.constantLong RX10 80 (2), .methodLink RX10 82 yX10_in, .static yX10_in, .initialized RX10, .fieldLink RX10 16 "LuckyTicketModel" "hasImage" "[Z", .fieldLink RX10 9 "LuckyTicketModel" "world" "[I", .fieldLink RX10 13 "LuckyTicketModel" "images" "[I", .methodLink RX10 86 yX10_fillLuck, .instanceMethod yX10_fillLuck, .selects RX10 yX10_fillLuck yX10_fillLuck] : List Cond) (HAppend.hAppend uX10_in (HAppend.hAppend uX10_fillLuck wsX100)))
theorem iX10_back_X10 : ∀ w ∈ wsX100, w ∈ uX10_back := fun _ h => (List.mem_cons_of_mem _ (List.mem_append_right _ (List.mem_append_right _ (List.mem_append_right _ h))))
theorem guX10_back : GU uX10_back := gu_cons (gu_app (by decide +kernel) (gu_ap guX10_in (gu_ap guX10_fillLuck gws_X10)))
theorem gX10_back__X10_in_S82 : GoodIn uX10_back (va_wsS RX10 82 yX10_in uX10_in) := gin_S (List.mem_of_getElem? (i := 2) rfl) (List.mem_of_getElem? (i := 3) rfl) (List.mem_of_getElem? (i := 4) rfl) (fun _ h => (List.mem_cons_of_mem _ (List.mem_append_right _ (List.mem_append_left _ h)))) guX10_in
theorem gX10_back__X10_fillLuck_V86 : GoodIn uX10_back (wsV RX10 86 RX10 yX10_fillLuck uX10_fillLuck) := gin_V (List.mem_of_getElem? (i := 8) rfl) (List.mem_of_getElem? (i := 9) rfl) (List.mem_of_getElem? (i := 10) rfl) (List.mem_of_getElem? (i := 4) rfl) (fun _ h => (List.mem_cons_of_mem _ (List.mem_append_right _ (List.mem_append_right _ (List.mem_append_left _ h))))) guX10_fillLuck
set_option maxHeartbeats 4000000 in
set_option maxRecDepth 100000 in
theorem kX10_back (l : Launch) (dC : Nat → ClassId) (dI : Nat → Nat → Nat) (o0 : Nat) (x_th : Int32) (mwo : Nat) (mim : Nat) (mhi : Nat) (mlu : Nat) (mtp : Nat) (x_td : Int32) (mfv : Nat) (x_sz : Int32) (x_at : Int32) (x_fr : Int32) (x_to : Int32) (x_va : Int32) (x_fk : Int32) (x_fp : Int32) (mfr : Nat) (mwt : Nat) (x_wt : Int32) (x_op : Int32) (x_jo : Int32) (mfg : Nat) (mpl : Nat) (x_dr : Int64) (mtm : Nat) (mfa : Nat) (mqu : Nat) (mmo : Nat) (mwy : Nat) (mwn : Nat) (mma : Nat) (mwi : Nat) (mnu : Nat) (mmv : Nat) (c_wo : ClassId) (c_im : ClassId) (c_hi : ClassId) (c_lu : ClassId) (c_fg : ClassId) (c_pl : ClassId) (w_wo : Nat → Int32) (w_im : Nat → Int32) (w_hi : Nat → Int32) (w_lu : Nat → Int32) (w_fg : Nat → Int32) (w_pl : Nat → Int32) (a1 : Int32) (sz : Nat) (ha_mfg : rg w_fg 12 0 15) (ha_mpl : rg w_pl 26 0 1) (hgw : GW w_wo) (hgi : GI w_im w_hi) : Met l yX10_back uX10_back ({ frames := 5, cells := 0, slots := 0, locals := 112 }) (va_Pc [.ref o0, .int a1] (hw (dC, dI) vwCl [(o0, .inr (8, [.int x_th, .ref mwo, .ref mim, .ref mhi, .ref mlu, .ref mtp, .int x_td, .ref mfv, .int x_sz, .int x_at, .int x_fr, .int x_to, .int x_va, .int x_fk, .int x_fp, .ref mfr, .ref mwt, .int x_wt, .int x_op, .int x_jo, .ref mfg, .ref mpl, .long x_dr, .ref mtm, .ref mfa, .ref mqu, .ref mmo, .ref mwy, .ref mwn, .ref mma, .ref mwi, .ref mnu, .ref mmv])), (mwo, .inl (c_wo, 1875, .inl w_wo)), (mim, .inl (c_im, 5625, .inl w_im)), (mhi, .inl (c_hi, 3, .inl w_hi)), (mlu, .inl (c_lu, 20000, .inl w_lu)), (mfg, .inl (c_fg, 12, .inl w_fg)), (mpl, .inl (c_pl, 26, .inl w_pl))] [(c_wo, .int), (c_im, .int), (c_hi, .boolean), (c_lu, .int), (c_fg, .int), (c_pl, .boolean)] sz)) (va_Qi (fun (r : Int32) (_ : Unit) => ((-6 : Int) ≤ r.toInt ∧ r.toInt ≤ 0)) (fun (_ : Unit) t => ∃ (o0_ : Nat → Int32) (o1_ : Nat → Int32) (o2_ : Nat → Int32) (o3_ : Nat → Int32), (rg o2_ 12 0 15) ∧ (rg o3_ 26 0 1) ∧ (GW o0_) ∧ va_P (dC, dI) vwCl [(o0, .inr (8, [.int x_th, .ref mwo, .ref mim, .ref mhi, .ref mlu, .ref mtp, .int x_td, .ref mfv, .int x_sz, .int x_at, .int x_fr, .int x_to, .int x_va, .int x_fk, .int x_fp, .ref mfr, .ref mwt, .int x_wt, .int x_op, .int x_jo, .ref mfg, .ref mpl, .long x_dr, .ref mtm, .ref mfa, .ref mqu, .ref mmo, .ref mwy, .ref mwn, .ref mma, .ref mwi, .ref mnu, .ref mmv])), (mwo, .inl (c_wo, 1875, .inl o0_)), (mim, .inl (c_im, 5625, .inl w_im)), (mhi, .inl (c_hi, 3, .inl w_hi)), (mlu, .inl (c_lu, 20000, .inl o1_)), (mfg, .inl (c_fg, 12, .inl o2_)), (mpl, .inl (c_pl, 26, .inl o3_))] t.heap ∧ va_K (dC, dI) vwCl [(c_wo, .int), (c_im, .int), (c_hi, .boolean), (c_lu, .int), (c_fg, .int), (c_pl, .boolean)] t ∧ va_D (va_A [(o0, .inr (8, [.int x_th, .ref mwo, .ref mim, .ref mhi, .ref mlu, .ref mtp, .int x_td, .ref mfv, .int x_sz, .int x_at, .int x_fr, .int x_to, .int x_va, .int x_fk, .int x_fp, .ref mfr, .ref mwt, .int x_wt, .int x_op, .int x_jo, .ref mfg, .ref mpl, .long x_dr, .ref mtm, .ref mfa, .ref mqu, .ref mmo, .ref mwy, .ref mwn, .ref mma, .ref mwi, .ref mnu, .ref mmv])), (mwo, .inl (c_wo, 1875, .inl w_wo)), (mim, .inl (c_im, 5625, .inl w_im)), (mhi, .inl (c_hi, 3, .inl w_hi)), (mlu, .inl (c_lu, 20000, .inl w_lu)), (mfg, .inl (c_fg, 12, .inl w_fg)), (mpl, .inl (c_pl, 26, .inl w_pl))] sz) [(o0, .inr (8, [.int x_th, .ref mwo, .ref mim, .ref mhi, .ref mlu, .ref mtp, .int x_td, .ref mfv, .int x_sz, .int x_at, .int x_fr, .int x_to, .int x_va, .int x_fk, .int x_fp, .ref mfr, .ref mwt, .int x_wt, .int x_op, .int x_jo, .ref mfg, .ref mpl, .long x_dr, .ref mtm, .ref mfa, .ref mqu, .ref mmo, .ref mwy, .ref mwn, .ref mma, .ref mwi, .ref mnu, .ref mmv])), (mwo, .inl (c_wo, 1875, .inl o0_)), (mim, .inl (c_im, 5625, .inl w_im)), (mhi, .inl (c_hi, 3, .inl w_hi)), (mlu, .inl (c_lu, 20000, .inl o1_)), (mfg, .inl (c_fg, 12, .inl o2_)), (mpl, .inl (c_pl, 26, .inl o3_))]) (va_A [(o0, .inr (8, [.int x_th, .ref mwo, .ref mim, .ref mhi, .ref mlu, .ref mtp, .int x_td, .ref mfv, .int x_sz, .int x_at, .int x_fr, .int x_to, .int x_va, .int x_fk, .int x_fp, .ref mfr, .ref mwt, .int x_wt, .int x_op, .int x_jo, .ref mfg, .ref mpl, .long x_dr, .ref mtm, .ref mfa, .ref mqu, .ref mmo, .ref mwy, .ref mwn, .ref mma, .ref mwi, .ref mnu, .ref mmv])), (mwo, .inl (c_wo, 1875, .inl w_wo)), (mim, .inl (c_im, 5625, .inl w_im)), (mhi, .inl (c_hi, 3, .inl w_hi)), (mlu, .inl (c_lu, 20000, .inl w_lu)), (mfg, .inl (c_fg, 12, .inl w_fg)), (mpl, .inl (c_pl, 26, .inl w_pl))] sz)) 0 0 (va_A [(o0, .inr (8, [.int x_th, .ref mwo, .ref mim, .ref mhi, .ref mlu, .ref mtp, .int x_td, .ref mfv, .int x_sz, .int x_at, .int x_fr, .int x_to, .int x_va, .int x_fk, .int x_fp, .ref mfr, .ref mwt, .int x_wt, .int x_op, .int x_jo, .ref mfg, .ref mpl, .long x_dr, .ref mtm, .ref mfa, .ref mqu, .ref mmo, .ref mwy, .ref mwn, .ref mma, .ref mwi, .ref mnu, .ref mmv])), (mwo, .inl (c_wo, 1875, .inl w_wo)), (mim, .inl (c_im, 5625, .inl w_im)), (mhi, .inl (c_hi, 3, .inl w_hi)), (mlu, .inl (c_lu, 20000, .inl w_lu)), (mfg, .inl (c_fg, 12, .inl w_fg)), (mpl, .inl (c_pl, 26, .inl w_pl))] sz) := by
  refine Met.ofW (cc := cX10_back) (maxL := 3) (ret := (some .int)) pn_X10 rfl ?_
  intro p e s m args below meth c s₁ B hml hv
  obtain ⟨rfl, hsz, hP, hK, hD0, hN⟩ := hv
  have hx := B.exec
  have hb := B.bytes
  have hr := B.returns
  have hts := atoms_spec (ws := uX10_back) B.pre
  have hown : s.vm.findClass RX10 = some m.cls := hown_of B.named rfl
  have hlocks := B.notSynchronized
  subst hsz
  have hD := hD0.self (sz := s.heap.size)
  generalize hAe : va_A [(o0, .inr (8, [.int x_th, .ref mwo, .ref mim, .ref mhi, .ref mlu, .ref mtp, .int x_td, .ref mfv, .int x_sz, .int x_at, .int x_fr, .int x_to, .int x_va, .int x_fk, .int x_fp, .ref mfr, .ref mwt, .int x_wt, .int x_op, .int x_jo, .ref mfg, .ref mpl, .long x_dr, .ref mtm, .ref mfa, .ref mqu, .ref mmo, .ref mwy, .ref mwn, .ref mma, .ref mwi, .ref mnu, .ref mmv])), (mwo, .inl (c_wo, 1875, .inl w_wo)), (mim, .inl (c_im, 5625, .inl w_im)), (mhi, .inl (c_hi, 3, .inl w_hi)), (mlu, .inl (c_lu, 20000, .inl w_lu)), (mfg, .inl (c_fg, 12, .inl w_fg)), (mpl, .inl (c_pl, 26, .inl w_pl))] s.heap.size = A at hD ⊢
  have hA : ∀ q : Nat, s.heap.size ≤ q → A q := fun q h => by rw [← hAe]; exact Or.inr h
  have hS : va_S A s.heap s.heap [] := va_S.rf
  have hP : va_P (dC, dI) vwCl [(o0, .inr (8, [.int x_th, .ref mwo, .ref mim, .ref mhi, .ref mlu, .ref mtp, .int x_td, .ref mfv, .int x_sz, .int x_at, .int x_fr, .int x_to, .int x_va, .int x_fk, .int x_fp, .ref mfr, .ref mwt, .int x_wt, .int x_op, .int x_jo, .ref mfg, .ref mpl, .long x_dr, .ref mtm, .ref mfa, .ref mqu, .ref mmo, .ref mwy, .ref mwn, .ref mma, .ref mwi, .ref mnu, .ref mmv])), (mwo, .inl (c_wo, 1875, .inl w_wo)), (mim, .inl (c_im, 5625, .inl w_im)), (mhi, .inl (c_hi, 3, .inl w_hi)), (mlu, .inl (c_lu, 20000, .inl w_lu)), (mfg, .inl (c_fg, 12, .inl w_fg)), (mpl, .inl (c_pl, 26, .inl w_pl))] s.heap := hP
  have hl := lv_entry ([.ref o0, .int a1]) (n := 3) (Nat.le_of_ble_eq_true rfl)
  rw [lg_entry_eq]
  generalize (lg_sl ([.ref o0, .int a1]) ++ List.replicate (3 - (lg_sl ([.ref o0, .int a1])).length) Slot.unset).toArray = ls at hl ⊢
  have hl : lv_has ls 3 [(0, .ref o0), (1, .int a1)] := hl
  refine lv_iload_n hx hb dX10_back_0 rfl (lv_at hl 1 rfl) ?_
  obtain ⟨z_99, e_z_99⟩ : ∃ y : Int64, y = a1.toInt64 := ⟨_, rfl⟩
  refine lv_i2l (v := z_99) hx hb dX10_back_1 e_z_99.symm ?_
  obtain ⟨q_z_99, b_z_99⟩ := ti_i2l e_z_99 (ti_rng a1)
  refine lv_lconst (v := 0) hx hb dX10_back_2 (by decide) ?_
  refine lv_ldc2 (v := 2) hx hb hown (hts (.constantLong RX10 80 (2)) (List.mem_of_getElem? (i := 1) rfl)) dX10_back_3 ?_
  refine vp_callSi (W.runS (As := [.long z_99, .long 0, .long 2]) (rest := []) ⟨hx, hb, hml, hown, hts⟩ (kX10_in l dC dI z_99 0 2 ) (va_cwS 3 hts gX10_back__X10_in_S82 rfl rfl rfl hd_yX10_in.2 ⟨lel 1 5 rfl, lel 25 112 rfl⟩) ⟨pn_fb, pn_use⟩ rfl rfl hl.1 rfl (lv_room (Nat.le_of_ble_eq_true rfl)) dX10_back_6 ⟨lel 0 0 rfl, lel 0 0 rfl⟩) (fun r_100 h_r_100 => ?_)
  obtain ⟨b_r_100, nz_r_100⟩ := h_r_100
  have b_r_100 : (0 : Int) ≤ r_100.toInt ∧ r_100.toInt ≤ 1 := b_r_100
  refine lv_if_ne (tgt := 15) hx hb dX10_back_9 (by decide) (fun c_101 => ?_) (fun c_101 => ?_)
  ·
    have n_c_101 : (r_100.toInt : Int) ≠ 0 := c_ne rfl (by decide) c_101
    have b_r_100 : (1 : Int) ≤ r_100.toInt ∧ r_100.toInt ≤ 1 := r_ne1 b_r_100 (by decide : (0 : Int) ≤ (0 : Int32).toInt ∧ (0 : Int32).toInt ≤ 0) n_c_101 (by decide)
    have g_102 := nz_r_100 c_101
    have lt0_g_102 := (by decide : (0 : Int64).toInt = 0)
    have lt1_g_102 := (by decide : (2 : Int64).toInt = 2)
    have b_z_99 : (0 : Int) ≤ z_99.toInt ∧ z_99.toInt ≤ 2 := by
      have q0 := b_z_99
      have q1 := (by decide : (0 : Int) ≤ (0 : Int64).toInt ∧ (0 : Int64).toInt ≤ 0)
      have q2 := (by decide : (2 : Int) ≤ (2 : Int64).toInt ∧ (2 : Int64).toInt ≤ 2)
      omega
    have b_a1 : (0 : Int) ≤ a1.toInt ∧ a1.toInt ≤ 2 := by
      have q0 := b_z_99; have q1 := q_z_99; have q2 := (ti_rng a1); omega
    refine lv_aload_n hx hb dX10_back_15 rfl (lv_at hl 0 rfl) ?_
    refine va_get (D := (dC, dI)) (ci := 8) (v := .ref mhi) (C := RX10) (T := TX10) (N := 33) hx hb hts iX10_back_X10 hown hK hP 0 rfl rfl 3 (by decide) (hts (.fieldLink RX10 16 "LuckyTicketModel" "hasImage" "[Z") (List.mem_of_getElem? (i := 5) rfl)) (fun _ h9 => h9) rfl dX10_back_16 ?_
    refine lv_iload_n hx hb dX10_back_19 rfl (lv_at hl 1 rfl) ?_
    refine va_zald hx hb hK hP 3 2 rfl rfl (vp_in_b b_a1 (by decide) (by decide)) dX10_back_20 ?_
    refine lv_topi (fun z_103 e_z_103 => ?_)
    refine lv_if_ne (tgt := 27) hx hb dX10_back_21 (by decide) (fun c_104 => ?_) (fun c_104 => ?_)
    ·
      have n_c_104 : (z_103.toInt : Int) ≠ 0 := c_ne rfl (by decide) c_104
      refine lv_iconst (v := 0) hx hb dX10_back_27 (by decide) ?_
      refine lv_istore_n (lv' := [(2, .int 0), (0, .ref o0), (1, .int a1)]) hx hb dX10_back_28 rfl hl (by decide) rfl (fun ls hl => ?_)
      refine loopW (σ := Int32 × (Nat → Int32)) (fun v => (1875 - v.1.toInt).toNat) (fun v H locs ls => ((0 : Int) ≤ v.1.toInt ∧ v.1.toInt ≤ 1875) ∧ (∀ j : Nat, j < v.1.toInt.toNat → v.2 j = w_im (1875 * a1.toInt.toNat + j)) ∧ va_P (dC, dI) vwCl [(o0, .inr (8, [.int x_th, .ref mwo, .ref mim, .ref mhi, .ref mlu, .ref mtp, .int x_td, .ref mfv, .int x_sz, .int x_at, .int x_fr, .int x_to, .int x_va, .int x_fk, .int x_fp, .ref mfr, .ref mwt, .int x_wt, .int x_op, .int x_jo, .ref mfg, .ref mpl, .long x_dr, .ref mtm, .ref mfa, .ref mqu, .ref mmo, .ref mwy, .ref mwn, .ref mma, .ref mwi, .ref mnu, .ref mmv])), (mwo, .inl (c_wo, 1875, .inl v.2)), (mim, .inl (c_im, 5625, .inl w_im)), (mhi, .inl (c_hi, 3, .inl w_hi)), (mlu, .inl (c_lu, 20000, .inl w_lu)), (mfg, .inl (c_fg, 12, .inl w_fg)), (mpl, .inl (c_pl, 26, .inl w_pl))] H ∧ va_D A [(o0, .inr (8, [.int x_th, .ref mwo, .ref mim, .ref mhi, .ref mlu, .ref mtp, .int x_td, .ref mfv, .int x_sz, .int x_at, .int x_fr, .int x_to, .int x_va, .int x_fk, .int x_fp, .ref mfr, .ref mwt, .int x_wt, .int x_op, .int x_jo, .ref mfg, .ref mpl, .long x_dr, .ref mtm, .ref mfa, .ref mqu, .ref mmo, .ref mwy, .ref mwn, .ref mma, .ref mwi, .ref mnu, .ref mmv])), (mwo, .inl (c_wo, 1875, .inl v.2)), (mim, .inl (c_im, 5625, .inl w_im)), (mhi, .inl (c_hi, 3, .inl w_hi)), (mlu, .inl (c_lu, 20000, .inl w_lu)), (mfg, .inl (c_fg, 12, .inl w_fg)), (mpl, .inl (c_pl, 26, .inl w_pl))] ∧ va_S A s.heap H locs ∧ lv_has ls 3 [(2, .int v.1), (0, .ref o0), (1, .int a1)]) (fun v H locs ls hI ih_29_178 => ?_) ((0 : Int32), w_wo) ⟨(show (0 : Int) ≤ (0 : Int32).toInt ∧ (0 : Int32).toInt ≤ 1875 from (rg_w (by decide : (0 : Int) ≤ (0 : Int32).toInt ∧ (0 : Int32).toInt ≤ 0) (by decide) (by decide))), (show ∀ j : Nat, j < (0 : Int32).toInt.toNat → w_wo j = w_im (1875 * a1.toInt.toNat + j) from (nil_lt)), hP, hD, hS, lv_sub hl [0, 1, 2] rfl⟩
      obtain ⟨y_111, f_112⟩ := v
      obtain ⟨b_y_111, hcb, hP, hD, hS, hl⟩ := hI
      have b_y_111 : (0 : Int) ≤ y_111.toInt ∧ y_111.toInt ≤ 1875 := b_y_111
      have hcb : ∀ j : Nat, j < y_111.toInt.toNat → f_112 j = w_im (1875 * a1.toInt.toNat + j) := hcb
      have hP : va_P (dC, dI) vwCl [(o0, .inr (8, [.int x_th, .ref mwo, .ref mim, .ref mhi, .ref mlu, .ref mtp, .int x_td, .ref mfv, .int x_sz, .int x_at, .int x_fr, .int x_to, .int x_va, .int x_fk, .int x_fp, .ref mfr, .ref mwt, .int x_wt, .int x_op, .int x_jo, .ref mfg, .ref mpl, .long x_dr, .ref mtm, .ref mfa, .ref mqu, .ref mmo, .ref mwy, .ref mwn, .ref mma, .ref mwi, .ref mnu, .ref mmv])), (mwo, .inl (c_wo, 1875, .inl f_112)), (mim, .inl (c_im, 5625, .inl w_im)), (mhi, .inl (c_hi, 3, .inl w_hi)), (mlu, .inl (c_lu, 20000, .inl w_lu)), (mfg, .inl (c_fg, 12, .inl w_fg)), (mpl, .inl (c_pl, 26, .inl w_pl))] H := hP
      have hD : va_D A [(o0, .inr (8, [.int x_th, .ref mwo, .ref mim, .ref mhi, .ref mlu, .ref mtp, .int x_td, .ref mfv, .int x_sz, .int x_at, .int x_fr, .int x_to, .int x_va, .int x_fk, .int x_fp, .ref mfr, .ref mwt, .int x_wt, .int x_op, .int x_jo, .ref mfg, .ref mpl, .long x_dr, .ref mtm, .ref mfa, .ref mqu, .ref mmo, .ref mwy, .ref mwn, .ref mma, .ref mwi, .ref mnu, .ref mmv])), (mwo, .inl (c_wo, 1875, .inl f_112)), (mim, .inl (c_im, 5625, .inl w_im)), (mhi, .inl (c_hi, 3, .inl w_hi)), (mlu, .inl (c_lu, 20000, .inl w_lu)), (mfg, .inl (c_fg, 12, .inl w_fg)), (mpl, .inl (c_pl, 26, .inl w_pl))] := hD
      have hl : lv_has ls 3 [(2, .int y_111), (0, .ref o0), (1, .int a1)] := hl
      refine lv_iload_n hx hb dX10_back_29 rfl (lv_at hl 0 rfl) ?_
      refine lv_sipush (v := 1875) hx hb dX10_back_30 (by decide) ?_
      refine lv_icmp_ge (tgt := 60) hx hb dX10_back_33 (by decide) (fun c_179 => ?_) (fun c_179 => ?_)
      ·
        have n_c_179 : (1875 : Int) ≤ y_111.toInt := c_ge rfl (by decide) c_179
        have b_y_111 : (1875 : Int) ≤ y_111.toInt ∧ y_111.toInt ≤ 1875 := r_le2 (by decide : (1875 : Int) ≤ (1875 : Int32).toInt ∧ (1875 : Int32).toInt ≤ 1875) b_y_111 n_c_179 (by decide)
        have hgwk : GW f_112 := GW.congr (fun j hj => hcb j (by omega)) (hgi a1.toInt.toNat (by omega) (show w_hi a1.toNatClampNeg ≠ 0 from fun h9 => c_104 (e_z_103.trans h9)))
        have hgw9 : GW f_112 := hgwk
        obtain ⟨hgr, hwz, hpv, htp⟩ := hgw9
        obtain ⟨ln, hw0⟩ : ∃ y : Int32, f_112 0 = y := ⟨_, rfl⟩
        obtain ⟨bs, hw1⟩ : ∃ y : Int32, f_112 1 = y := ⟨_, rfl⟩
        obtain ⟨tk, hw2⟩ : ∃ y : Int32, f_112 2 = y := ⟨_, rfl⟩
        obtain ⟨lw, hw3⟩ : ∃ y : Int32, f_112 3 = y := ⟨_, rfl⟩
        obtain ⟨li, hw4⟩ : ∃ y : Int32, f_112 4 = y := ⟨_, rfl⟩
        rw [hw0, hw1, hw2, hw3] at hgr hwz
        rw [hw0, hw1, hw2] at htp
        rw [hw3] at hpv
        obtain ⟨b_ln, b_bs, b_tk, b_lw⟩ := hgr
        refine lv_aload_n hx hb dX10_back_60 rfl (lv_at hl 1 rfl) ?_
        have hFc := va_free (wc := [(o0, .inr (8, [.int x_th, .ref mwo, .ref mim, .ref mhi, .ref mlu, .ref mtp, .int x_td, .ref mfv, .int x_sz, .int x_at, .int x_fr, .int x_to, .int x_va, .int x_fk, .int x_fp, .ref mfr, .ref mwt, .int x_wt, .int x_op, .int x_jo, .ref mfg, .ref mpl, .long x_dr, .ref mtm, .ref mfa, .ref mqu, .ref mmo, .ref mwy, .ref mwn, .ref mma, .ref mwi, .ref mnu, .ref mmv])), (mwo, .inl (c_wo, 1875, .inl f_112)), (mlu, .inl (c_lu, 20000, .inl w_lu)), (mfg, .inl (c_fg, 12, .inl w_fg)), (mpl, .inl (c_pl, 26, .inl w_pl))]) hD hS hA [0, 1, 4, 5, 6] rfl
        refine va_callv (va_runV (As := []) (rest := []) ⟨hx, hb, hml, hown, hts⟩ (kX10_fillLuck l dC dI o0 x_th mwo mim mhi mlu mtp x_td mfv x_sz x_at x_fr x_to x_va x_fk x_fp mfr mwt x_wt x_op x_jo mfg mpl x_dr mtm mfa mqu mmo mwy mwn mma mwi mnu mmv c_wo c_lu c_fg c_pl f_112 w_lu w_fg w_pl ln bs tk lw li (H.size) b_ln b_bs b_tk b_lw ha_mfg ha_mpl (hw0) (hw1) (hw2) (hw3) (hw4) (hwz) (hpv)) (cwV 0 hts gX10_back__X10_fillLuck_V86 rfl rfl rfl hd_yX10_fillLuck ⟨lel 5 5 rfl, lel 112 112 rfl⟩) ⟨hw_fb, rcv_X10 hK hP (q0 := 0) rfl, (hw_use hP hD hK hN [0, 1, 4, 5, 6] rfl (by decide) rfl [0, 3, 4, 5] rfl)⟩ rfl rfl hl.1 rfl (lv_room (Nat.le_of_ble_eq_true rfl)) dX10_back_61 ⟨lel 0 0 rfl, lel 0 0 rfl⟩) hS (fun q _ h => hFc q h) hFc (fun u_186 t H1 locs ht hvm hw_r_185 hB hz1 hk1 hS => ?_)
        obtain ⟨o0_187, o1_188, o2_189, ha_190, ha_191, hP1, hK1, hD1⟩ := hB
        rw [ht] at hP1
        have hK1 := va_K.moved hvm.symm hK1
        obtain ⟨hP, hD⟩ := va_join (wr := [(mim, .inl (c_im, 5625, .inl w_im)), (mhi, .inl (c_hi, 3, .inl w_hi))]) (w1 := [(o0, .inr (8, [.int x_th, .ref mwo, .ref mim, .ref mhi, .ref mlu, .ref mtp, .int x_td, .ref mfv, .int x_sz, .int x_at, .int x_fr, .int x_to, .int x_va, .int x_fk, .int x_fp, .ref mfr, .ref mwt, .int x_wt, .int x_op, .int x_jo, .ref mfg, .ref mpl, .long x_dr, .ref mtm, .ref mfa, .ref mqu, .ref mmo, .ref mwy, .ref mwn, .ref mma, .ref mwi, .ref mnu, .ref mmv])), (mwo, .inl (c_wo, 1875, .inl f_112)), (mlu, .inl (c_lu, 20000, .inl o0_187)), (mfg, .inl (c_fg, 12, .inl o1_188)), (mpl, .inl (c_pl, 26, .inl o2_189))]) hP hD [0, 1, 4, 5, 6] [2, 3] rfl rfl (by decide) (by decide) hk1 hFc hP1 hD1
        have hK := (hK.sub (tys' := [(c_im, .int), (c_hi, .boolean)]) [1, 2] rfl).app hK1
        generalize H1 = H at hP hS ⊢
        have hP := hP.sub (ws' := [(o0, .inr (8, [.int x_th, .ref mwo, .ref mim, .ref mhi, .ref mlu, .ref mtp, .int x_td, .ref mfv, .int x_sz, .int x_at, .int x_fr, .int x_to, .int x_va, .int x_fk, .int x_fp, .ref mfr, .ref mwt, .int x_wt, .int x_op, .int x_jo, .ref mfg, .ref mpl, .long x_dr, .ref mtm, .ref mfa, .ref mqu, .ref mmo, .ref mwy, .ref mwn, .ref mma, .ref mwi, .ref mnu, .ref mmv])), (mwo, .inl (c_wo, 1875, .inl f_112)), (mim, .inl (c_im, 5625, .inl w_im)), (mhi, .inl (c_hi, 3, .inl w_hi)), (mlu, .inl (c_lu, 20000, .inl o0_187)), (mfg, .inl (c_fg, 12, .inl o1_188)), (mpl, .inl (c_pl, 26, .inl o2_189))]) [2, 3, 0, 1, 4, 5, 6] rfl
        have hD := hD.sub (ws' := [(o0, .inr (8, [.int x_th, .ref mwo, .ref mim, .ref mhi, .ref mlu, .ref mtp, .int x_td, .ref mfv, .int x_sz, .int x_at, .int x_fr, .int x_to, .int x_va, .int x_fk, .int x_fp, .ref mfr, .ref mwt, .int x_wt, .int x_op, .int x_jo, .ref mfg, .ref mpl, .long x_dr, .ref mtm, .ref mfa, .ref mqu, .ref mmo, .ref mwy, .ref mwn, .ref mma, .ref mwi, .ref mnu, .ref mmv])), (mwo, .inl (c_wo, 1875, .inl f_112)), (mim, .inl (c_im, 5625, .inl w_im)), (mhi, .inl (c_hi, 3, .inl w_hi)), (mlu, .inl (c_lu, 20000, .inl o0_187)), (mfg, .inl (c_fg, 12, .inl o1_188)), (mpl, .inl (c_pl, 26, .inl o2_189))]) [2, 3, 0, 1, 4, 5, 6] (by decide) rfl
        have hK := hK.sub (tys' := [(c_wo, .int), (c_im, .int), (c_hi, .boolean), (c_lu, .int), (c_fg, .int), (c_pl, .boolean)]) [2, 0, 1, 3, 4, 5] rfl
        have hP : va_P (dC, dI) vwCl [(o0, .inr (8, [.int x_th, .ref mwo, .ref mim, .ref mhi, .ref mlu, .ref mtp, .int x_td, .ref mfv, .int x_sz, .int x_at, .int x_fr, .int x_to, .int x_va, .int x_fk, .int x_fp, .ref mfr, .ref mwt, .int x_wt, .int x_op, .int x_jo, .ref mfg, .ref mpl, .long x_dr, .ref mtm, .ref mfa, .ref mqu, .ref mmo, .ref mwy, .ref mwn, .ref mma, .ref mwi, .ref mnu, .ref mmv])), (mwo, .inl (c_wo, 1875, .inl f_112)), (mim, .inl (c_im, 5625, .inl w_im)), (mhi, .inl (c_hi, 3, .inl w_hi)), (mlu, .inl (c_lu, 20000, .inl o0_187)), (mfg, .inl (c_fg, 12, .inl o1_188)), (mpl, .inl (c_pl, 26, .inl o2_189))] H := hP
        have hD : va_D A [(o0, .inr (8, [.int x_th, .ref mwo, .ref mim, .ref mhi, .ref mlu, .ref mtp, .int x_td, .ref mfv, .int x_sz, .int x_at, .int x_fr, .int x_to, .int x_va, .int x_fk, .int x_fp, .ref mfr, .ref mwt, .int x_wt, .int x_op, .int x_jo, .ref mfg, .ref mpl, .long x_dr, .ref mtm, .ref mfa, .ref mqu, .ref mmo, .ref mwy, .ref mwn, .ref mma, .ref mwi, .ref mnu, .ref mmv])), (mwo, .inl (c_wo, 1875, .inl f_112)), (mim, .inl (c_im, 5625, .inl w_im)), (mhi, .inl (c_hi, 3, .inl w_hi)), (mlu, .inl (c_lu, 20000, .inl o0_187)), (mfg, .inl (c_fg, 12, .inl o1_188)), (mpl, .inl (c_pl, 26, .inl o2_189))] := hD
        have hK : va_K (dC, dI) vwCl [(c_wo, .int), (c_im, .int), (c_hi, .boolean), (c_lu, .int), (c_fg, .int), (c_pl, .boolean)] s := hK
        refine lv_iconst (v := 0) hx hb dX10_back_64 (by decide) ?_
        have hP9 := hP.sub (ws' := [(o0, .inr (8, [.int x_th, .ref mwo, .ref mim, .ref mhi, .ref mlu, .ref mtp, .int x_td, .ref mfv, .int x_sz, .int x_at, .int x_fr, .int x_to, .int x_va, .int x_fk, .int x_fp, .ref mfr, .ref mwt, .int x_wt, .int x_op, .int x_jo, .ref mfg, .ref mpl, .long x_dr, .ref mtm, .ref mfa, .ref mqu, .ref mmo, .ref mwy, .ref mwn, .ref mma, .ref mwi, .ref mnu, .ref mmv])), (mwo, .inl (c_wo, 1875, .inl f_112)), (mim, .inl (c_im, 5625, .inl w_im)), (mhi, .inl (c_hi, 3, .inl w_hi)), (mlu, .inl (c_lu, 20000, .inl o0_187)), (mfg, .inl (c_fg, 12, .inl o1_188)), (mpl, .inl (c_pl, 26, .inl o2_189))]) [0, 1, 2, 3, 4, 5, 6] rfl
        have hD9 := hD.sub (ws' := [(o0, .inr (8, [.int x_th, .ref mwo, .ref mim, .ref mhi, .ref mlu, .ref mtp, .int x_td, .ref mfv, .int x_sz, .int x_at, .int x_fr, .int x_to, .int x_va, .int x_fk, .int x_fp, .ref mfr, .ref mwt, .int x_wt, .int x_op, .int x_jo, .ref mfg, .ref mpl, .long x_dr, .ref mtm, .ref mfa, .ref mqu, .ref mmo, .ref mwy, .ref mwn, .ref mma, .ref mwi, .ref mnu, .ref mmv])), (mwo, .inl (c_wo, 1875, .inl f_112)), (mim, .inl (c_im, 5625, .inl w_im)), (mhi, .inl (c_hi, 3, .inl w_hi)), (mlu, .inl (c_lu, 20000, .inl o0_187)), (mfg, .inl (c_fg, 12, .inl o1_188)), (mpl, .inl (c_pl, 26, .inl o2_189))]) [0, 1, 2, 3, 4, 5, 6] (by decide) rfl
        have hK9 := hK.sub (tys' := [(c_wo, .int), (c_im, .int), (c_hi, .boolean), (c_lu, .int), (c_fg, .int), (c_pl, .boolean)]) [0, 1, 2, 3, 4, 5] rfl
        exact W.iret (v := 0) hx hb hr (fun t ht hW => ⟨⟨0, (), rfl, (rg_w (by decide : (0 : Int) ≤ (0 : Int32).toInt ∧ (0 : Int32).toInt ≤ 0) (by decide) (by decide)), f_112, o0_187, o1_188, o2_189, ha_190, ha_191, (hgwk), by rw [ht]; exact hP9, va_K.moved hW.alike hK9, hD9⟩, hS.F ht⟩) hS.2.2 dX10_back_65
      ·
        have n_c_179 : (y_111.toInt : Int) < 1875 := c_nge rfl (by decide) c_179
        have b_y_111 : (0 : Int) ≤ y_111.toInt ∧ y_111.toInt ≤ 1874 := r_lt1 b_y_111 (by decide : (1875 : Int) ≤ (1875 : Int32).toInt ∧ (1875 : Int32).toInt ≤ 1875) n_c_179 (by decide)
        refine lv_aload_n hx hb dX10_back_36 rfl (lv_at hl 1 rfl) ?_
        refine va_get (D := (dC, dI)) (ci := 8) (v := .ref mwo) (C := RX10) (T := TX10) (N := 33) hx hb hts iX10_back_X10 hown hK hP 0 rfl rfl 1 (by decide) (hts (.fieldLink RX10 9 "LuckyTicketModel" "world" "[I") (List.mem_of_getElem? (i := 6) rfl)) (fun _ h9 => h9) rfl dX10_back_37 ?_
        refine lv_iload_n hx hb dX10_back_40 rfl (lv_at hl 0 rfl) ?_
        refine lv_aload_n hx hb dX10_back_41 rfl (lv_at hl 1 rfl) ?_
        refine va_get (D := (dC, dI)) (ci := 8) (v := .ref mim) (C := RX10) (T := TX10) (N := 33) hx hb hts iX10_back_X10 hown hK hP 0 rfl rfl 2 (by decide) (hts (.fieldLink RX10 13 "LuckyTicketModel" "images" "[I") (List.mem_of_getElem? (i := 7) rfl)) (fun _ h9 => h9) rfl dX10_back_42 ?_
        refine lv_sipush (v := 1875) hx hb dX10_back_45 (by decide) ?_
        refine lv_iload_n hx hb dX10_back_48 rfl (lv_at hl 2 rfl) ?_
        refine lv_imul hx hb dX10_back_49 ?_
        refine lv_topi (fun z_192 e_z_192 => ?_)
        obtain ⟨q_z_192, b_z_192⟩ := ti_mul (lo := 0) (hi := 3750) e_z_192 (by decide : (1875 : Int32).toInt = 1875) rfl (by decide : (1875 : Int) ≤ (1875 : Int32).toInt ∧ (1875 : Int32).toInt ≤ 1875) b_a1 (by decide)
        refine lv_iload_n hx hb dX10_back_50 rfl (lv_at hl 0 rfl) ?_
        refine lv_iadd hx hb dX10_back_51 ?_
        refine lv_topi (fun z_193 e_z_193 => ?_)
        obtain ⟨q_z_193, b_z_193⟩ := ti_add (lo := 0) (hi := 5624) e_z_193 rfl rfl b_z_192 b_y_111 (by decide)
        refine va_iald hx hb hK hP 2 1 rfl rfl (vp_in_b b_z_193 (by decide) (by decide)) dX10_back_52 ?_
        refine lv_topi (fun z_194 e_z_194 => ?_)
        refine va_iast hx hb hK hP hD hS 1 0 rfl rfl (vp_in_b b_y_111 (by decide) (by decide)) dX10_back_53 (fun H locs hP hD hS => ?_)
        have hP : va_P (dC, dI) vwCl [(o0, .inr (8, [.int x_th, .ref mwo, .ref mim, .ref mhi, .ref mlu, .ref mtp, .int x_td, .ref mfv, .int x_sz, .int x_at, .int x_fr, .int x_to, .int x_va, .int x_fk, .int x_fp, .ref mfr, .ref mwt, .int x_wt, .int x_op, .int x_jo, .ref mfg, .ref mpl, .long x_dr, .ref mtm, .ref mfa, .ref mqu, .ref mmo, .ref mwy, .ref mwn, .ref mma, .ref mwi, .ref mnu, .ref mmv])), (mwo, .inl (c_wo, 1875, .inl (upd f_112 (y_111 : Int32).toNatClampNeg z_194))), (mim, .inl (c_im, 5625, .inl w_im)), (mhi, .inl (c_hi, 3, .inl w_hi)), (mlu, .inl (c_lu, 20000, .inl w_lu)), (mfg, .inl (c_fg, 12, .inl w_fg)), (mpl, .inl (c_pl, 26, .inl w_pl))] H := hP
        have hD : va_D A [(o0, .inr (8, [.int x_th, .ref mwo, .ref mim, .ref mhi, .ref mlu, .ref mtp, .int x_td, .ref mfv, .int x_sz, .int x_at, .int x_fr, .int x_to, .int x_va, .int x_fk, .int x_fp, .ref mfr, .ref mwt, .int x_wt, .int x_op, .int x_jo, .ref mfg, .ref mpl, .long x_dr, .ref mtm, .ref mfa, .ref mqu, .ref mmo, .ref mwy, .ref mwn, .ref mma, .ref mwi, .ref mnu, .ref mmv])), (mwo, .inl (c_wo, 1875, .inl (upd f_112 (y_111 : Int32).toNatClampNeg z_194))), (mim, .inl (c_im, 5625, .inl w_im)), (mhi, .inl (c_hi, 3, .inl w_hi)), (mlu, .inl (c_lu, 20000, .inl w_lu)), (mfg, .inl (c_fg, 12, .inl w_fg)), (mpl, .inl (c_pl, 26, .inl w_pl))] := hD
        generalize ef_f_195 : (upd f_112 (y_111 : Int32).toNatClampNeg z_194) = f_195 at hP hD
        have hP : va_P (dC, dI) vwCl [(o0, .inr (8, [.int x_th, .ref mwo, .ref mim, .ref mhi, .ref mlu, .ref mtp, .int x_td, .ref mfv, .int x_sz, .int x_at, .int x_fr, .int x_to, .int x_va, .int x_fk, .int x_fp, .ref mfr, .ref mwt, .int x_wt, .int x_op, .int x_jo, .ref mfg, .ref mpl, .long x_dr, .ref mtm, .ref mfa, .ref mqu, .ref mmo, .ref mwy, .ref mwn, .ref mma, .ref mwi, .ref mnu, .ref mmv])), (mwo, .inl (c_wo, 1875, .inl f_195)), (mim, .inl (c_im, 5625, .inl w_im)), (mhi, .inl (c_hi, 3, .inl w_hi)), (mlu, .inl (c_lu, 20000, .inl w_lu)), (mfg, .inl (c_fg, 12, .inl w_fg)), (mpl, .inl (c_pl, 26, .inl w_pl))] H := hP
        have hD : va_D A [(o0, .inr (8, [.int x_th, .ref mwo, .ref mim, .ref mhi, .ref mlu, .ref mtp, .int x_td, .ref mfv, .int x_sz, .int x_at, .int x_fr, .int x_to, .int x_va, .int x_fk, .int x_fp, .ref mfr, .ref mwt, .int x_wt, .int x_op, .int x_jo, .ref mfg, .ref mpl, .long x_dr, .ref mtm, .ref mfa, .ref mqu, .ref mmo, .ref mwy, .ref mwn, .ref mma, .ref mwi, .ref mnu, .ref mmv])), (mwo, .inl (c_wo, 1875, .inl f_195)), (mim, .inl (c_im, 5625, .inl w_im)), (mhi, .inl (c_hi, 3, .inl w_hi)), (mlu, .inl (c_lu, 20000, .inl w_lu)), (mfg, .inl (c_fg, 12, .inl w_fg)), (mpl, .inl (c_pl, 26, .inl w_pl))] := hD
        obtain ⟨z_196, e_z_196⟩ : ∃ y : Int32, y = y_111 + 1 := ⟨_, rfl⟩
        refine lv_iinc (v := z_196) (lv' := [(2, .int z_196), (0, .ref o0), (1, .int a1)]) hx hb dX10_back_54 hl (k := 0) rfl (by rw [e_z_196]; rfl) (by decide) rfl (fun ls hl => ?_)
        obtain ⟨q_z_196, b_z_196⟩ := ti_add (lo := 1) (hi := 1875) e_z_196 rfl (by decide : (1 : Int32).toInt = 1) b_y_111 (by decide : (1 : Int) ≤ (1 : Int32).toInt ∧ (1 : Int32).toInt ≤ 1) (by decide)
        refine lv_goto (tgt := 29) hx hb dX10_back_57 (by decide) ?_
        exact ih_29_178 (z_196, f_195) _ _ _ ⟨(show (0 : Int) ≤ z_196.toInt ∧ z_196.toInt ≤ 1875 from (rg_w b_z_196 (by decide) (by decide))), (show ∀ j : Nat, j < z_196.toInt.toNat → f_195 j = w_im (1875 * a1.toInt.toNat + j) from (bk_1 hcb (by omega) (by omega) q_z_196 (show z_193.toInt = 1875 * a1.toInt + y_111.toInt from by omega) e_z_194 ef_f_195)), hP, hD, hS, lv_sub hl [0, 1, 2] rfl⟩ (show (1875 - z_196.toInt).toNat < (1875 - y_111.toInt).toNat by omega)
    ·
      have n_c_104 : (z_103.toInt : Int) = 0 := c_eq rfl (by decide) c_104
      have b_z_103 : (0 : Int) ≤ z_103.toInt ∧ z_103.toInt ≤ 0 := r_eq1 (ti_rng z_103) (by decide : (0 : Int) ≤ (0 : Int32).toInt ∧ (0 : Int32).toInt ≤ 0) n_c_104 (by decide)
      refine lv_bipush (v := (-6)) hx hb dX10_back_24 (by decide) ?_
      have hP9 := hP.sub (ws' := [(o0, .inr (8, [.int x_th, .ref mwo, .ref mim, .ref mhi, .ref mlu, .ref mtp, .int x_td, .ref mfv, .int x_sz, .int x_at, .int x_fr, .int x_to, .int x_va, .int x_fk, .int x_fp, .ref mfr, .ref mwt, .int x_wt, .int x_op, .int x_jo, .ref mfg, .ref mpl, .long x_dr, .ref mtm, .ref mfa, .ref mqu, .ref mmo, .ref mwy, .ref mwn, .ref mma, .ref mwi, .ref mnu, .ref mmv])), (mwo, .inl (c_wo, 1875, .inl w_wo)), (mim, .inl (c_im, 5625, .inl w_im)), (mhi, .inl (c_hi, 3, .inl w_hi)), (mlu, .inl (c_lu, 20000, .inl w_lu)), (mfg, .inl (c_fg, 12, .inl w_fg)), (mpl, .inl (c_pl, 26, .inl w_pl))]) [0, 1, 2, 3, 4, 5, 6] rfl
      have hD9 := hD.sub (ws' := [(o0, .inr (8, [.int x_th, .ref mwo, .ref mim, .ref mhi, .ref mlu, .ref mtp, .int x_td, .ref mfv, .int x_sz, .int x_at, .int x_fr, .int x_to, .int x_va, .int x_fk, .int x_fp, .ref mfr, .ref mwt, .int x_wt, .int x_op, .int x_jo, .ref mfg, .ref mpl, .long x_dr, .ref mtm, .ref mfa, .ref mqu, .ref mmo, .ref mwy, .ref mwn, .ref mma, .ref mwi, .ref mnu, .ref mmv])), (mwo, .inl (c_wo, 1875, .inl w_wo)), (mim, .inl (c_im, 5625, .inl w_im)), (mhi, .inl (c_hi, 3, .inl w_hi)), (mlu, .inl (c_lu, 20000, .inl w_lu)), (mfg, .inl (c_fg, 12, .inl w_fg)), (mpl, .inl (c_pl, 26, .inl w_pl))]) [0, 1, 2, 3, 4, 5, 6] (by decide) rfl
      have hK9 := hK.sub (tys' := [(c_wo, .int), (c_im, .int), (c_hi, .boolean), (c_lu, .int), (c_fg, .int), (c_pl, .boolean)]) [0, 1, 2, 3, 4, 5] rfl
      exact W.iret (v := (-6)) hx hb hr (fun t ht hW => ⟨⟨(-6), (), rfl, (rg_w (by decide : (-6 : Int) ≤ ((-6) : Int32).toInt ∧ ((-6) : Int32).toInt ≤ -6) (by decide) (by decide)), w_wo, w_lu, w_fg, w_pl, ha_mfg, ha_mpl, (hgw), by rw [ht]; exact hP9, va_K.moved hW.alike hK9, hD9⟩, hS.F ht⟩) hS.2.2 dX10_back_26
  ·
    have n_c_101 : (r_100.toInt : Int) = 0 := c_eq rfl (by decide) c_101
    have b_r_100 : (0 : Int) ≤ r_100.toInt ∧ r_100.toInt ≤ 0 := r_eq1 b_r_100 (by decide : (0 : Int) ≤ (0 : Int32).toInt ∧ (0 : Int32).toInt ≤ 0) n_c_101 (by decide)
    refine lv_bipush (v := (-2)) hx hb dX10_back_12 (by decide) ?_
    have hP9 := hP.sub (ws' := [(o0, .inr (8, [.int x_th, .ref mwo, .ref mim, .ref mhi, .ref mlu, .ref mtp, .int x_td, .ref mfv, .int x_sz, .int x_at, .int x_fr, .int x_to, .int x_va, .int x_fk, .int x_fp, .ref mfr, .ref mwt, .int x_wt, .int x_op, .int x_jo, .ref mfg, .ref mpl, .long x_dr, .ref mtm, .ref mfa, .ref mqu, .ref mmo, .ref mwy, .ref mwn, .ref mma, .ref mwi, .ref mnu, .ref mmv])), (mwo, .inl (c_wo, 1875, .inl w_wo)), (mim, .inl (c_im, 5625, .inl w_im)), (mhi, .inl (c_hi, 3, .inl w_hi)), (mlu, .inl (c_lu, 20000, .inl w_lu)), (mfg, .inl (c_fg, 12, .inl w_fg)), (mpl, .inl (c_pl, 26, .inl w_pl))]) [0, 1, 2, 3, 4, 5, 6] rfl
    have hD9 := hD.sub (ws' := [(o0, .inr (8, [.int x_th, .ref mwo, .ref mim, .ref mhi, .ref mlu, .ref mtp, .int x_td, .ref mfv, .int x_sz, .int x_at, .int x_fr, .int x_to, .int x_va, .int x_fk, .int x_fp, .ref mfr, .ref mwt, .int x_wt, .int x_op, .int x_jo, .ref mfg, .ref mpl, .long x_dr, .ref mtm, .ref mfa, .ref mqu, .ref mmo, .ref mwy, .ref mwn, .ref mma, .ref mwi, .ref mnu, .ref mmv])), (mwo, .inl (c_wo, 1875, .inl w_wo)), (mim, .inl (c_im, 5625, .inl w_im)), (mhi, .inl (c_hi, 3, .inl w_hi)), (mlu, .inl (c_lu, 20000, .inl w_lu)), (mfg, .inl (c_fg, 12, .inl w_fg)), (mpl, .inl (c_pl, 26, .inl w_pl))]) [0, 1, 2, 3, 4, 5, 6] (by decide) rfl
    have hK9 := hK.sub (tys' := [(c_wo, .int), (c_im, .int), (c_hi, .boolean), (c_lu, .int), (c_fg, .int), (c_pl, .boolean)]) [0, 1, 2, 3, 4, 5] rfl
    exact W.iret (v := (-2)) hx hb hr (fun t ht hW => ⟨⟨(-2), (), rfl, (rg_w (by decide : (-2 : Int) ≤ ((-2) : Int32).toInt ∧ ((-2) : Int32).toInt ≤ -2) (by decide) (by decide)), w_wo, w_lu, w_fg, w_pl, ha_mfg, ha_mpl, (hgw), by rw [ht]; exact hP9, va_K.moved hW.alike hK9, hD9⟩, hS.F ht⟩) hS.2.2 dX10_back_14
